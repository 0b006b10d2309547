/-- the list of contracts: its places, its addresses, what stands in each -/
def gCt (ws : va_W) (n cap : Nat) (q : Nat → Option Nat) (ad pk fw lag trig : Nat → Nat) (fl : Nat → Bool) (fm : Nat → Nat) (cs : Nat → Nat × Nat × Nat × Nat) : Prop := n ≤ cap ∧ cap < 2 ^ 31 ∧ (∀ k, k < n → q k = some (ad k)) ∧ ∀ k, k < n → ws[pk k]? = some (ad k, Sum.inr (1, [.int (nI (fw k)), .int (nI (lag k)), .int (nI (trig k)), .int (gb (fl k)), .int (nI (fm k)), .long (lN (cs k).1), .long (lN (cs k).2.1), .int (nI (cs k).2.2.1), .long (lN (cs k).2.2.2)]))
theorem gCt.set {ws : va_W} {n cap : Nat} {q : Nat → Option Nat} {ad pk fw lag trig : Nat → Nat} {fl : Nat → Bool} {fm : Nat → Nat} {cs : Nat → Nat × Nat × Nat × Nat} {p : Nat} {x z : Nat × va_E} (h : gCt ws n cap q ad pk fw lag trig fl fm cs) (h1 : ws[p]? = some z) (hk : gkd z.2 ≠ 11) : gCt (ws.set p x) n cap q ad pk fw lag trig fl fm cs := by
  refine ⟨h.1, h.2.1, h.2.2.1, fun i hi => ?_⟩
  have h' := h.2.2.2 i hi
  refine g_ne (fun e => hk ?_) h'
  rw [← e, h1] at h'
  rw [Option.some.inj h']
  rfl
/-- nothing is drawn in a growth -/
def nnGrow (x : Nat → UInt64) (t : Nat) : Prop := vf_n32 (FP.d2f (x (t * 5 + 0))) ∧ vf_n32 (FP.d2f (x ((t - 12) * 5 + 0))) ∧ vf_n32 (FP.fdiv (FP.d2f (x (t * 5 + 0))) (FP.d2f (x ((t - 12) * 5 + 0)))) ∧ vf_n32 (FP.fsub (FP.fdiv (FP.d2f (x (t * 5 + 0))) (FP.d2f (x ((t - 12) * 5 + 0)))) 1065353216)
def sGrow (x : Nat → UInt64) (t : Nat) : UInt32 := FP.fsub (FP.fdiv (FP.d2f (x (t * 5 + 0))) (FP.d2f (x ((t - 12) * 5 + 0)))) 1065353216
set_option maxHeartbeats 4000000 in
set_option maxRecDepth 100000 in
theorem x0_X6_confirm (l : Launch) {D : va_G} {y : Nat → Nat} {ws : va_W} {x_off_1 : Value} {x_off_2 : Value} {x_off_3 : Value} {x_off_4 : Value} {x_off_5 : Value} {x_off_6 : Value} {x_led_2 : Value} {x_led_4 : Value} {x_led_5 : Value} {x_led_6 : Value} {x_led_7 : Value} {x_led_8 : Value} {x_led_9 : Value} {x_itl_0 : Value} {p_off p_led p_itl p_cents p_cf a_off a_led a_itl a_cents a_cf a_ita : Nat} {cents : Nat → Nat} {cf : Nat → Bool} {i o : Int32} {nw n : Nat} (f0_off : ws[p_off]? = some (a_off, .inr (7, [.ref a_led, x_off_1, x_off_2, x_off_3, x_off_4, x_off_5, x_off_6, .int (nI (nw))]))) (f0_led : ws[p_led]? = some (a_led, .inr (3, [.ref a_itl, .ref a_cents, x_led_2, .ref a_cf, x_led_4, x_led_5, x_led_6, x_led_7, x_led_8, x_led_9]))) (f0_itl : ws[p_itl]? = some (a_itl, .inr (0, [x_itl_0, .ref a_ita, .int (nI (n))]))) (f0_cents : ws[p_cents]? = some (a_cents, eN y 1152 cents)) (f0_cf : ws[p_cf]? = some (a_cf, eZ y 1152 cf)) (b_cents : ∀ k, cents k ≤ 100000) (hfl : l.stackTraces = false) (hw : nw < 2 ^ 31) (hn : n ≤ 12)  (hbad : i < 0 ∨ nI n ≤ i) : gMxi l yX6_confirm wsX6_confirm ({ frames := 7, cells := 1, slots := 6, locals := 121 }) D y [.ref a_off, .int (i), .int (o)] ws "java/lang/IndexOutOfBoundsException" := by
  refine g_metx_z (cc := cX6_confirm) (maxL := 5) (by decide) rfl (Nat.le_of_ble_eq_true rfl) ?_
  intro p e s m below meth c A hx hb hml hr hts hown hnm hlocks hE hP hD hS hA hex hX ls hl
  have hown : s.vm.findClass RX6 = some m.cls := hown
  have hl : lv_has ls 5 [(0, .ref a_off), (1, .int (i)), (2, .int (o))] := hl
  refine lv_aload_n hx hb dX6_confirm_0 rfl (lv_at hl 0 rfl) ?_
  refine lv_iload_n hx hb dX6_confirm_1 rfl (lv_at hl 1 rfl) ?_
  exact gcx_V_v (As := [.int (i)]) (rest := []) (x_X6_requireItem l f0_off f0_led f0_itl hfl hbad) ⟨hx, hb, hml, hown, hts⟩ (cwV 1 hts gX6_confirm_X6_requireItem rfl rfl rfl (by decide +kernel) ⟨Nat.le_of_ble_eq_true rfl, Nat.le_of_ble_eq_true rfl⟩) hE hX hex hlocks hP hD hS hA _ f0_off rfl rfl rfl rfl hl.1 (Nat.le_of_ble_eq_true rfl) dX6_confirm_2 ⟨Nat.le_of_ble_eq_true rfl, Nat.le_of_ble_eq_true rfl⟩ (Nat.le_of_ble_eq_true rfl) (Nat.le_of_ble_eq_true rfl)

set_option maxHeartbeats 4000000 in
set_option maxRecDepth 100000 in
theorem x1_X6_confirm (l : Launch) {D : va_G} {y : Nat → Nat} {ws : va_W} {x_off_1 : Value} {x_off_2 : Value} {x_off_3 : Value} {x_off_4 : Value} {x_off_5 : Value} {x_off_6 : Value} {x_led_2 : Value} {x_led_4 : Value} {x_led_5 : Value} {x_led_6 : Value} {x_led_7 : Value} {x_led_8 : Value} {x_led_9 : Value} {x_itl_0 : Value} {p_off p_led p_itl p_cents p_cf a_off a_led a_itl a_cents a_cf a_ita : Nat} {cents : Nat → Nat} {cf : Nat → Bool} {i : Nat} {o : Int32} {nw n : Nat} (f0_off : ws[p_off]? = some (a_off, .inr (7, [.ref a_led, x_off_1, x_off_2, x_off_3, x_off_4, x_off_5, x_off_6, .int (nI (nw))]))) (f0_led : ws[p_led]? = some (a_led, .inr (3, [.ref a_itl, .ref a_cents, x_led_2, .ref a_cf, x_led_4, x_led_5, x_led_6, x_led_7, x_led_8, x_led_9]))) (f0_itl : ws[p_itl]? = some (a_itl, .inr (0, [x_itl_0, .ref a_ita, .int (nI (n))]))) (f0_cents : ws[p_cents]? = some (a_cents, eN y 1152 cents)) (f0_cf : ws[p_cf]? = some (a_cf, eZ y 1152 cf)) (b_cents : ∀ k, cents k ≤ 100000) (hfl : l.stackTraces = false) (hw : nw < 2 ^ 31) (hn : n ≤ 12) (hi : i < n) (hbad : o < 0 ∨ nI 4 ≤ o) : gMxi l yX6_confirm wsX6_confirm ({ frames := 7, cells := 1, slots := 6, locals := 120 }) D y [.ref a_off, .int (nI (i)), .int (o)] ws "java/lang/IndexOutOfBoundsException" := by
  refine g_metx_z (cc := cX6_confirm) (maxL := 5) (by decide) rfl (Nat.le_of_ble_eq_true rfl) ?_
  intro p e s m below meth c A hx hb hml hr hts hown hnm hlocks hE hP hD hS hA hex hX ls hl
  have hown : s.vm.findClass RX6 = some m.cls := hown
  have hl : lv_has ls 5 [(0, .ref a_off), (1, .int (nI (i))), (2, .int (o))] := hl
  refine lv_aload_n hx hb dX6_confirm_0 rfl (lv_at hl 0 rfl) ?_
  refine lv_iload_n hx hb dX6_confirm_1 rfl (lv_at hl 1 rfl) ?_
  refine gc_V_v (As := [.int (nI (i))]) (rest := []) (c_X6_requireItem l f0_off f0_led f0_itl (rq_lt hi (by omega))) ⟨hx, hb, hml, hown, hts⟩ (cwV 1 hts gX6_confirm_X6_requireItem rfl rfl rfl (by decide +kernel) ⟨Nat.le_of_ble_eq_true rfl, Nat.le_of_ble_eq_true rfl⟩) hE hP hD hS hA _ f0_off rfl rfl rfl rfl hl.1 (Nat.le_of_ble_eq_true rfl) dX6_confirm_2 ⟨Nat.le_of_ble_eq_true rfl, Nat.le_of_ble_eq_true rfl⟩ (fun u_2 H locs hP hD hS q_2 => ?_)
  refine lv_iload_n hx hb dX6_confirm_5 rfl (lv_at hl 2 rfl) ?_
  exact gcx_S_v (As := [.int (o)]) (rest := []) (x_X6_requireOutlet l hfl hbad) ⟨hx, hb, hml, hown, hts⟩ (va_cwS 1 hts gX6_confirm_X6_requireOutlet rfl rfl rfl (by decide +kernel) ⟨Nat.le_of_ble_eq_true rfl, Nat.le_of_ble_eq_true rfl⟩) hE hX hex hlocks hP hD hS hA rfl rfl hl.1 (Nat.le_of_ble_eq_true rfl) dX6_confirm_6 ⟨Nat.le_of_ble_eq_true rfl, Nat.le_of_ble_eq_true rfl⟩ (Nat.le_of_ble_eq_true rfl) (Nat.le_of_ble_eq_true rfl)

set_option maxHeartbeats 4000000 in
set_option maxRecDepth 100000 in
theorem x2_X6_confirm (l : Launch) {D : va_G} {y : Nat → Nat} {ws : va_W} {x_off_1 : Value} {x_off_2 : Value} {x_off_3 : Value} {x_off_4 : Value} {x_off_5 : Value} {x_off_6 : Value} {x_led_2 : Value} {x_led_4 : Value} {x_led_5 : Value} {x_led_6 : Value} {x_led_7 : Value} {x_led_8 : Value} {x_led_9 : Value} {x_itl_0 : Value} {p_off p_led p_itl p_cents p_cf a_off a_led a_itl a_cents a_cf a_ita : Nat} {cents : Nat → Nat} {cf : Nat → Bool} {i o : Nat} {nw n : Nat} (f0_off : ws[p_off]? = some (a_off, .inr (7, [.ref a_led, x_off_1, x_off_2, x_off_3, x_off_4, x_off_5, x_off_6, .int (nI (nw))]))) (f0_led : ws[p_led]? = some (a_led, .inr (3, [.ref a_itl, .ref a_cents, x_led_2, .ref a_cf, x_led_4, x_led_5, x_led_6, x_led_7, x_led_8, x_led_9]))) (f0_itl : ws[p_itl]? = some (a_itl, .inr (0, [x_itl_0, .ref a_ita, .int (nI (n))]))) (f0_cents : ws[p_cents]? = some (a_cents, eN y 1152 cents)) (f0_cf : ws[p_cf]? = some (a_cf, eZ y 1152 cf)) (b_cents : ∀ k, cents k ≤ 100000) (hfl : l.stackTraces = false) (hw : nw < 2 ^ 31) (hn : n ≤ 12) (hi : i < n) (ho : o < 4) (hbad : 24 ≤ nw) : gMxi l yX6_confirm wsX6_confirm ({ frames := 7, cells := 1, slots := 6, locals := 120 }) D y [.ref a_off, .int (nI (i)), .int (nI (o))] ws "java/lang/IllegalStateException" := by
  refine g_metx_z (cc := cX6_confirm) (maxL := 5) (by decide) rfl (Nat.le_of_ble_eq_true rfl) ?_
  intro p e s m below meth c A hx hb hml hr hts hown hnm hlocks hE hP hD hS hA hex hX ls hl
  have hown : s.vm.findClass RX6 = some m.cls := hown
  have hl : lv_has ls 5 [(0, .ref a_off), (1, .int (nI (i))), (2, .int (nI (o)))] := hl
  refine lv_aload_n hx hb dX6_confirm_0 rfl (lv_at hl 0 rfl) ?_
  refine lv_iload_n hx hb dX6_confirm_1 rfl (lv_at hl 1 rfl) ?_
  refine gc_V_v (As := [.int (nI (i))]) (rest := []) (c_X6_requireItem l f0_off f0_led f0_itl (rq_lt hi (by omega))) ⟨hx, hb, hml, hown, hts⟩ (cwV 1 hts gX6_confirm_X6_requireItem rfl rfl rfl (by decide +kernel) ⟨Nat.le_of_ble_eq_true rfl, Nat.le_of_ble_eq_true rfl⟩) hE hP hD hS hA _ f0_off rfl rfl rfl rfl hl.1 (Nat.le_of_ble_eq_true rfl) dX6_confirm_2 ⟨Nat.le_of_ble_eq_true rfl, Nat.le_of_ble_eq_true rfl⟩ (fun u_2 H locs hP hD hS q_2 => ?_)
  refine lv_iload_n hx hb dX6_confirm_5 rfl (lv_at hl 2 rfl) ?_
  refine gc_S_v (As := [.int (nI (o))]) (rest := []) (c_X6_requireOutlet l (rq_lt ho (by omega))) ⟨hx, hb, hml, hown, hts⟩ (va_cwS 1 hts gX6_confirm_X6_requireOutlet rfl rfl rfl (by decide +kernel) ⟨Nat.le_of_ble_eq_true rfl, Nat.le_of_ble_eq_true rfl⟩) hE hP hD hS hA rfl rfl hl.1 (Nat.le_of_ble_eq_true rfl) dX6_confirm_6 ⟨Nat.le_of_ble_eq_true rfl, Nat.le_of_ble_eq_true rfl⟩ (fun u_6 H locs hP hD hS q_6 => ?_)
  refine lv_aload_n hx hb dX6_confirm_9 rfl (lv_at hl 0 rfl) ?_
  exact gcx_V_v (As := []) (rest := []) (x_X6_requireCollecting l f0_off hfl hbad (by omega)) ⟨hx, hb, hml, hown, hts⟩ (cwV 0 hts gX6_confirm_X6_requireCollecting rfl rfl rfl (by decide +kernel) ⟨Nat.le_of_ble_eq_true rfl, Nat.le_of_ble_eq_true rfl⟩) hE hX hex hlocks hP hD hS hA _ f0_off rfl rfl rfl rfl hl.1 (Nat.le_of_ble_eq_true rfl) dX6_confirm_10 ⟨Nat.le_of_ble_eq_true rfl, Nat.le_of_ble_eq_true rfl⟩ (Nat.le_of_ble_eq_true rfl) (Nat.le_of_ble_eq_true rfl)

theorem in_x3_X6_confirm_RX6 : ∀ w ∈ wsX60, w ∈ wsX6_confirm := by decide +kernel
set_option maxHeartbeats 4000000 in
set_option maxRecDepth 100000 in
theorem x3_X6_confirm (l : Launch) {D : va_G} {y : Nat → Nat} {ws : va_W} {x_off_1 : Value} {x_off_2 : Value} {x_off_3 : Value} {x_off_4 : Value} {x_off_5 : Value} {x_off_6 : Value} {x_led_2 : Value} {x_led_4 : Value} {x_led_5 : Value} {x_led_6 : Value} {x_led_7 : Value} {x_led_8 : Value} {x_led_9 : Value} {x_itl_0 : Value} {p_off p_led p_itl p_cents p_cf a_off a_led a_itl a_cents a_cf a_ita : Nat} {cents : Nat → Nat} {cf : Nat → Bool} {i o : Nat} {nw n : Nat} (f0_off : ws[p_off]? = some (a_off, .inr (7, [.ref a_led, x_off_1, x_off_2, x_off_3, x_off_4, x_off_5, x_off_6, .int (nI (nw))]))) (f0_led : ws[p_led]? = some (a_led, .inr (3, [.ref a_itl, .ref a_cents, x_led_2, .ref a_cf, x_led_4, x_led_5, x_led_6, x_led_7, x_led_8, x_led_9]))) (f0_itl : ws[p_itl]? = some (a_itl, .inr (0, [x_itl_0, .ref a_ita, .int (nI (n))]))) (f0_cents : ws[p_cents]? = some (a_cents, eN y 1152 cents)) (f0_cf : ws[p_cf]? = some (a_cf, eZ y 1152 cf)) (b_cents : ∀ k, cents k ≤ 100000) (hfl : l.stackTraces = false) (hw : nw < 2 ^ 31) (hn : n ≤ 12) (hi : i < n) (ho : o < 4) (hnw : nw < 24) (hbad : cents (nw * 48 + i * 4 + o) = 0) : gMxi l yX6_confirm wsX6_confirm ({ frames := 7, cells := 1, slots := 6, locals := 121 }) D y [.ref a_off, .int (nI (i)), .int (nI (o))] ws "java/lang/IllegalStateException" := by
  refine g_metx_z (cc := cX6_confirm) (maxL := 5) (by decide) rfl (Nat.le_of_ble_eq_true rfl) ?_
  intro p e s m below meth c A hx hb hml hr hts hown hnm hlocks hE hP hD hS hA hex hX ls hl
  have hown : s.vm.findClass RX6 = some m.cls := hown
  have hl : lv_has ls 5 [(0, .ref a_off), (1, .int (nI (i))), (2, .int (nI (o)))] := hl
  have in_RX6 := in_x3_X6_confirm_RX6
  refine lv_aload_n hx hb dX6_confirm_0 rfl (lv_at hl 0 rfl) ?_
  refine lv_iload_n hx hb dX6_confirm_1 rfl (lv_at hl 1 rfl) ?_
  refine gc_V_v (As := [.int (nI (i))]) (rest := []) (c_X6_requireItem l f0_off f0_led f0_itl (rq_lt hi (by omega))) ⟨hx, hb, hml, hown, hts⟩ (cwV 1 hts gX6_confirm_X6_requireItem rfl rfl rfl (by decide +kernel) ⟨Nat.le_of_ble_eq_true rfl, Nat.le_of_ble_eq_true rfl⟩) hE hP hD hS hA _ f0_off rfl rfl rfl rfl hl.1 (Nat.le_of_ble_eq_true rfl) dX6_confirm_2 ⟨Nat.le_of_ble_eq_true rfl, Nat.le_of_ble_eq_true rfl⟩ (fun u_2 H locs hP hD hS q_2 => ?_)
  refine lv_iload_n hx hb dX6_confirm_5 rfl (lv_at hl 2 rfl) ?_
  refine gc_S_v (As := [.int (nI (o))]) (rest := []) (c_X6_requireOutlet l (rq_lt ho (by omega))) ⟨hx, hb, hml, hown, hts⟩ (va_cwS 1 hts gX6_confirm_X6_requireOutlet rfl rfl rfl (by decide +kernel) ⟨Nat.le_of_ble_eq_true rfl, Nat.le_of_ble_eq_true rfl⟩) hE hP hD hS hA rfl rfl hl.1 (Nat.le_of_ble_eq_true rfl) dX6_confirm_6 ⟨Nat.le_of_ble_eq_true rfl, Nat.le_of_ble_eq_true rfl⟩ (fun u_6 H locs hP hD hS q_6 => ?_)
  refine lv_aload_n hx hb dX6_confirm_9 rfl (lv_at hl 0 rfl) ?_
  refine gc_V_v (As := []) (rest := []) (c_X6_requireCollecting l f0_off (by omega)) ⟨hx, hb, hml, hown, hts⟩ (cwV 0 hts gX6_confirm_X6_requireCollecting rfl rfl rfl (by decide +kernel) ⟨Nat.le_of_ble_eq_true rfl, Nat.le_of_ble_eq_true rfl⟩) hE hP hD hS hA _ f0_off rfl rfl rfl rfl hl.1 (Nat.le_of_ble_eq_true rfl) dX6_confirm_10 ⟨Nat.le_of_ble_eq_true rfl, Nat.le_of_ble_eq_true rfl⟩ (fun u_10 H locs hP hD hS q_10 => ?_)
  refine lv_iload_n hx hb dX6_confirm_13 rfl (lv_at hl 1 rfl) ?_
  refine lv_iload_n hx hb dX6_confirm_14 rfl (lv_at hl 2 rfl) ?_
  refine lv_aload_n hx hb dX6_confirm_15 rfl (lv_at hl 0 rfl) ?_
  refine va_get (D := D) (ci := 7) (v := .int (nI (nw))) (C := RX6) (T := TX6) (N := 8) hx hb hts in_RX6 hown hE.1 (gv1 hP f0_off) 0 rfl rfl 7 (by decide) (hts (.fieldLink RX6 49 "BasketryOffice" "now" "I") (by decide +kernel)) (fun _ h9 => h9) rfl dX6_confirm_16 ?_
  refine gc_S_i (As := [.int (nI (i)), .int (nI (o)), .int (nI (nw))]) (rest := []) (c_X6_slotOf l) ⟨hx, hb, hml, hown, hts⟩ (va_cwS 3 hts gX6_confirm_X6_slotOf rfl rfl rfl (by decide +kernel) ⟨Nat.le_of_ble_eq_true rfl, Nat.le_of_ble_eq_true rfl⟩) hE hP hD hS hA rfl rfl hl.1 (Nat.le_of_ble_eq_true rfl) dX6_confirm_19 ⟨Nat.le_of_ble_eq_true rfl, Nat.le_of_ble_eq_true rfl⟩ (fun r_19 u_19 H locs hP hD hS q_19 => ?_)
  subst q_19
  refine lv_istore_n (lv' := [(3, .int (nI (nw * 48 + i * 4 + o))), (0, .ref a_off), (1, .int (nI (i))), (2, .int (nI (o)))]) hx hb dX6_confirm_22 rfl hl (by decide) rfl (fun ls hl => ?_)
  refine lv_aload_n hx hb dX6_confirm_23 rfl (lv_at hl 1 rfl) ?_
  refine lv_iload_n hx hb dX6_confirm_24 rfl (lv_at hl 0 rfl) ?_
  exact gcx_V_v (As := [.int (nI (nw * 48 + i * 4 + o))]) (rest := []) (x_X6_requireQuote l f0_off f0_led f0_cents b_cents hfl (by omega) hbad) ⟨hx, hb, hml, hown, hts⟩ (cwV 1 hts gX6_confirm_X6_requireQuote rfl rfl rfl (by decide +kernel) ⟨Nat.le_of_ble_eq_true rfl, Nat.le_of_ble_eq_true rfl⟩) hE hX hex hlocks hP hD hS hA _ f0_off rfl rfl rfl rfl hl.1 (Nat.le_of_ble_eq_true rfl) dX6_confirm_25 ⟨Nat.le_of_ble_eq_true rfl, Nat.le_of_ble_eq_true rfl⟩ (Nat.le_of_ble_eq_true rfl) (Nat.le_of_ble_eq_true rfl)

theorem in_c_X6_confirm_RX2 : ∀ w ∈ wsX20, w ∈ wsX6_confirm := by decide +kernel
theorem in_c_X6_confirm_RX6 : ∀ w ∈ wsX60, w ∈ wsX6_confirm := by decide +kernel
set_option maxHeartbeats 4000000 in
set_option maxRecDepth 100000 in
theorem c_X6_confirm (l : Launch) {D : va_G} {y : Nat → Nat} {ws : va_W} {x_off_1 : Value} {x_off_2 : Value} {x_off_3 : Value} {x_off_4 : Value} {x_off_5 : Value} {x_off_6 : Value} {x_led_2 : Value} {x_led_4 : Value} {x_led_5 : Value} {x_led_6 : Value} {x_led_7 : Value} {x_led_8 : Value} {x_led_9 : Value} {x_itl_0 : Value} {p_off p_led p_itl p_cents p_cf a_off a_led a_itl a_cents a_cf a_ita : Nat} {cents : Nat → Nat} {cf : Nat → Bool} {i o : Nat} {nw n : Nat} (f0_off : ws[p_off]? = some (a_off, .inr (7, [.ref a_led, x_off_1, x_off_2, x_off_3, x_off_4, x_off_5, x_off_6, .int (nI (nw))]))) (f0_led : ws[p_led]? = some (a_led, .inr (3, [.ref a_itl, .ref a_cents, x_led_2, .ref a_cf, x_led_4, x_led_5, x_led_6, x_led_7, x_led_8, x_led_9]))) (f0_itl : ws[p_itl]? = some (a_itl, .inr (0, [x_itl_0, .ref a_ita, .int (nI (n))]))) (f0_cents : ws[p_cents]? = some (a_cents, eN y 1152 cents)) (f0_cf : ws[p_cf]? = some (a_cf, eZ y 1152 cf)) (b_cents : ∀ k, cents k ≤ 100000) (hw : nw < 2 ^ 31) (hn : n ≤ 12) (hi : i < n) (ho : o < 4) (hnw : nw < 24) (hq : 0 < cents (nw * 48 + i * 4 + o)) (hdis : p_cents ≠ p_cf) : gMi l yX6_confirm wsX6_confirm ({ frames := 2, cells := 0, slots := 0, locals := 42 }) D y [.ref a_off, .int (nI (i)), .int (nI (o))] ws (fun r (_ : Unit) => r = gb (cf (nw * 48 + i * 4 + o))) (fun (_ : Unit) => (ws.set p_cf (a_cf, eZ y 1152 (vf_upd cf (nw * 48 + i * 4 + o) true)))) := by
  refine g_met_z (cc := cX6_confirm) (maxL := 5) (by decide) rfl (Nat.le_of_ble_eq_true rfl) ?_
  intro p e s m below meth c A hx hb hml hr hts hown hnm hlocks hE hP hD hS hA ls hl
  have hown : s.vm.findClass RX6 = some m.cls := hown
  have hl : lv_has ls 5 [(0, .ref a_off), (1, .int (nI (i))), (2, .int (nI (o)))] := hl
  have in_RX2 := in_c_X6_confirm_RX2
  have in_RX6 := in_c_X6_confirm_RX6
  refine lv_aload_n hx hb dX6_confirm_0 rfl (lv_at hl 0 rfl) ?_
  refine lv_iload_n hx hb dX6_confirm_1 rfl (lv_at hl 1 rfl) ?_
  refine gc_V_v (As := [.int (nI (i))]) (rest := []) (c_X6_requireItem l f0_off f0_led f0_itl (rq_lt hi (by omega))) ⟨hx, hb, hml, hown, hts⟩ (cwV 1 hts gX6_confirm_X6_requireItem rfl rfl rfl (by decide +kernel) ⟨Nat.le_of_ble_eq_true rfl, Nat.le_of_ble_eq_true rfl⟩) hE hP hD hS hA _ f0_off rfl rfl rfl rfl hl.1 (Nat.le_of_ble_eq_true rfl) dX6_confirm_2 ⟨Nat.le_of_ble_eq_true rfl, Nat.le_of_ble_eq_true rfl⟩ (fun u_2 H locs hP hD hS q_2 => ?_)
  refine lv_iload_n hx hb dX6_confirm_5 rfl (lv_at hl 2 rfl) ?_
  refine gc_S_v (As := [.int (nI (o))]) (rest := []) (c_X6_requireOutlet l (rq_lt ho (by omega))) ⟨hx, hb, hml, hown, hts⟩ (va_cwS 1 hts gX6_confirm_X6_requireOutlet rfl rfl rfl (by decide +kernel) ⟨Nat.le_of_ble_eq_true rfl, Nat.le_of_ble_eq_true rfl⟩) hE hP hD hS hA rfl rfl hl.1 (Nat.le_of_ble_eq_true rfl) dX6_confirm_6 ⟨Nat.le_of_ble_eq_true rfl, Nat.le_of_ble_eq_true rfl⟩ (fun u_6 H locs hP hD hS q_6 => ?_)
  refine lv_aload_n hx hb dX6_confirm_9 rfl (lv_at hl 0 rfl) ?_
  refine gc_V_v (As := []) (rest := []) (c_X6_requireCollecting l f0_off (by omega)) ⟨hx, hb, hml, hown, hts⟩ (cwV 0 hts gX6_confirm_X6_requireCollecting rfl rfl rfl (by decide +kernel) ⟨Nat.le_of_ble_eq_true rfl, Nat.le_of_ble_eq_true rfl⟩) hE hP hD hS hA _ f0_off rfl rfl rfl rfl hl.1 (Nat.le_of_ble_eq_true rfl) dX6_confirm_10 ⟨Nat.le_of_ble_eq_true rfl, Nat.le_of_ble_eq_true rfl⟩ (fun u_10 H locs hP hD hS q_10 => ?_)
  refine lv_iload_n hx hb dX6_confirm_13 rfl (lv_at hl 1 rfl) ?_
  refine lv_iload_n hx hb dX6_confirm_14 rfl (lv_at hl 2 rfl) ?_
  refine lv_aload_n hx hb dX6_confirm_15 rfl (lv_at hl 0 rfl) ?_
  refine va_get (D := D) (ci := 7) (v := .int (nI (nw))) (C := RX6) (T := TX6) (N := 8) hx hb hts in_RX6 hown hE.1 (gv1 hP f0_off) 0 rfl rfl 7 (by decide) (hts (.fieldLink RX6 49 "BasketryOffice" "now" "I") (by decide +kernel)) (fun _ h9 => h9) rfl dX6_confirm_16 ?_
  refine gc_S_i (As := [.int (nI (i)), .int (nI (o)), .int (nI (nw))]) (rest := []) (c_X6_slotOf l) ⟨hx, hb, hml, hown, hts⟩ (va_cwS 3 hts gX6_confirm_X6_slotOf rfl rfl rfl (by decide +kernel) ⟨Nat.le_of_ble_eq_true rfl, Nat.le_of_ble_eq_true rfl⟩) hE hP hD hS hA rfl rfl hl.1 (Nat.le_of_ble_eq_true rfl) dX6_confirm_19 ⟨Nat.le_of_ble_eq_true rfl, Nat.le_of_ble_eq_true rfl⟩ (fun r_19 u_19 H locs hP hD hS q_19 => ?_)
  subst q_19
  refine lv_istore_n (lv' := [(3, .int (nI (nw * 48 + i * 4 + o))), (0, .ref a_off), (1, .int (nI (i))), (2, .int (nI (o)))]) hx hb dX6_confirm_22 rfl hl (by decide) rfl (fun ls hl => ?_)
  refine lv_aload_n hx hb dX6_confirm_23 rfl (lv_at hl 1 rfl) ?_
  refine lv_iload_n hx hb dX6_confirm_24 rfl (lv_at hl 0 rfl) ?_
  refine gc_V_v (As := [.int (nI (nw * 48 + i * 4 + o))]) (rest := []) (c_X6_requireQuote l f0_off f0_led f0_cents b_cents (by omega) hq) ⟨hx, hb, hml, hown, hts⟩ (cwV 1 hts gX6_confirm_X6_requireQuote rfl rfl rfl (by decide +kernel) ⟨Nat.le_of_ble_eq_true rfl, Nat.le_of_ble_eq_true rfl⟩) hE hP hD hS hA _ f0_off rfl rfl rfl rfl hl.1 (Nat.le_of_ble_eq_true rfl) dX6_confirm_25 ⟨Nat.le_of_ble_eq_true rfl, Nat.le_of_ble_eq_true rfl⟩ (fun u_25 H locs hP hD hS q_25 => ?_)
  refine lv_aload_n hx hb dX6_confirm_28 rfl (lv_at hl 1 rfl) ?_
  refine va_get (D := D) (ci := 7) (v := .ref a_led) (C := RX6) (T := TX6) (N := 8) hx hb hts in_RX6 hown hE.1 (gv1 hP f0_off) 0 rfl rfl 0 (by decide) (hts (.fieldLink RX6 12 "BasketryOffice" "ledger" "LBasketryOffice$Ledger;") (by decide +kernel)) (fun _ h9 => h9) rfl dX6_confirm_29 ?_
  refine va_getN (D := D) (ci := 3) (v := .ref a_cf) (C := RX2) (T := TX2) (N := 10) hx hb hts in_RX2 hown hE.1 (gv1 hP f0_led) 0 rfl rfl 3 (by decide) (va_Nw.use rfl (hE.2 (.fieldLinkNest RX6 121 "BasketryOffice$Ledger" "confirmed" "[Z" "BasketryOffice") (by decide +kernel))) (fun _ h9 => h9) rfl dX6_confirm_32 ?_
  refine lv_iload_n hx hb dX6_confirm_35 rfl (lv_at hl 0 rfl) ?_
  refine g_zald hx hb hE hP _ f0_cf (by omega) (by decide) dX6_confirm_36 ?_
  refine lv_istore (lv' := [(4, .int (gb (cf (nw * 48 + i * 4 + o)))), (3, .int (nI (nw * 48 + i * 4 + o))), (0, .ref a_off), (1, .int (nI (i))), (2, .int (nI (o)))]) hx hb dX6_confirm_37 hl (by decide) rfl (fun ls hl => ?_)
  refine lv_aload_n hx hb dX6_confirm_39 rfl (lv_at hl 2 rfl) ?_
  refine va_get (D := D) (ci := 7) (v := .ref a_led) (C := RX6) (T := TX6) (N := 8) hx hb hts in_RX6 hown hE.1 (gv1 hP f0_off) 0 rfl rfl 0 (by decide) (hts (.fieldLink RX6 12 "BasketryOffice" "ledger" "LBasketryOffice$Ledger;") (by decide +kernel)) (fun _ h9 => h9) rfl dX6_confirm_40 ?_
  refine va_getN (D := D) (ci := 3) (v := .ref a_cf) (C := RX2) (T := TX2) (N := 10) hx hb hts in_RX2 hown hE.1 (gv1 hP f0_led) 0 rfl rfl 3 (by decide) (va_Nw.use rfl (hE.2 (.fieldLinkNest RX6 121 "BasketryOffice$Ledger" "confirmed" "[Z" "BasketryOffice") (by decide +kernel))) (fun _ h9 => h9) rfl dX6_confirm_43 ?_
  refine lv_iload_n hx hb dX6_confirm_46 rfl (lv_at hl 1 rfl) ?_
  refine lv_iconst (v := nI 1) hx hb dX6_confirm_47 (by decide) ?_
  refine g_zast (x := true) hx hb hE hP hD hS _ f0_cf (by omega) (by decide) dX6_confirm_48 (fun H locs hP hD hS => ?_)
  have f_off := g_ne (x := (a_cf, eZ y 1152 (vf_upd cf (nw * 48 + i * 4 + o) (true)))) (g_kne f0_cf f0_off (Nat.ne_of_beq_eq_false rfl)) (f0_off)
  have f_led := g_ne (x := (a_cf, eZ y 1152 (vf_upd cf (nw * 48 + i * 4 + o) (true)))) (g_kne f0_cf f0_led (Nat.ne_of_beq_eq_false rfl)) (f0_led)
  have f_itl := g_ne (x := (a_cf, eZ y 1152 (vf_upd cf (nw * 48 + i * 4 + o) (true)))) (g_kne f0_cf f0_itl (Nat.ne_of_beq_eq_false rfl)) (f0_itl)
  have f_cents := g_ne (x := (a_cf, eZ y 1152 (vf_upd cf (nw * 48 + i * 4 + o) (true)))) (Ne.symm hdis) (f0_cents)
  have f_cf := g_eq (x := (a_cf, eZ y 1152 (vf_upd cf (nw * 48 + i * 4 + o) (true)))) (f0_cf)
  refine lv_iload hx hb dX6_confirm_49 (lv_at hl 0 rfl) ?_
  refine g_zret (r := (gb (cf (nw * 48 + i * 4 + o)))) hx hb hr hlocks () dX6_confirm_51 (gb_narrow _) hS hP hD ?_
  exact rfl

set_option maxHeartbeats 4000000 in
set_option maxRecDepth 100000 in
theorem x0_X6_link (l : Launch) {D : va_G} {y : Nat → Nat} {ws : va_W} {x_off_1 : Value} {x_off_2 : Value} {x_off_3 : Value} {x_off_4 : Value} {x_off_5 : Value} {x_off_6 : Value} {x_led_1 : Value} {x_led_2 : Value} {x_led_3 : Value} {x_led_4 : Value} {x_led_5 : Value} {x_led_8 : Value} {x_led_9 : Value} {x_itl_0 : Value} {p_off p_led p_itl p_lc p_lg a_off a_led a_itl a_lc a_lg a_ita : Nat} {lc : Nat → Nat} {lg : Nat → Nat} {i o ce gr : Int32} {nw n : Nat} (f0_off : ws[p_off]? = some (a_off, .inr (7, [.ref a_led, x_off_1, x_off_2, x_off_3, x_off_4, x_off_5, x_off_6, .int (nI (nw))]))) (f0_led : ws[p_led]? = some (a_led, .inr (3, [.ref a_itl, x_led_1, x_led_2, x_led_3, x_led_4, x_led_5, .ref a_lc, .ref a_lg, x_led_8, x_led_9]))) (f0_itl : ws[p_itl]? = some (a_itl, .inr (0, [x_itl_0, .ref a_ita, .int (nI (n))]))) (f0_lc : ws[p_lc]? = some (a_lc, eN y 1152 lc)) (f0_lg : ws[p_lg]? = some (a_lg, eN y 1152 lg)) (b_lc : ∀ k, lc k ≤ 100000) (b_lg : ∀ k, lg k ≤ 10000) (hfl : l.stackTraces = false) (hw : nw < 2 ^ 31) (hn : n ≤ 12)  (hbad : i < 0 ∨ nI n ≤ i) : gMxv l yX6_link wsX6_link ({ frames := 7, cells := 1, slots := 6, locals := 121 }) D y [.ref a_off, .int (i), .int (o), .int (ce), .int (gr)] ws "java/lang/IndexOutOfBoundsException" := by
  refine g_metx_v (cc := cX6_link) (maxL := 6) (by decide) rfl (Nat.le_of_ble_eq_true rfl) ?_
  intro p e s m below meth c A hx hb hml hr hts hown hnm hlocks hE hP hD hS hA hex hX ls hl
  have hown : s.vm.findClass RX6 = some m.cls := hown
  have hl : lv_has ls 6 [(0, .ref a_off), (1, .int (i)), (2, .int (o)), (3, .int (ce)), (4, .int (gr))] := hl
  refine lv_aload_n hx hb dX6_link_0 rfl (lv_at hl 0 rfl) ?_
  refine lv_iload_n hx hb dX6_link_1 rfl (lv_at hl 1 rfl) ?_
  exact gcx_V_v (As := [.int (i)]) (rest := []) (x_X6_requireItem l f0_off f0_led f0_itl hfl hbad) ⟨hx, hb, hml, hown, hts⟩ (cwV 1 hts gX6_link_X6_requireItem rfl rfl rfl (by decide +kernel) ⟨Nat.le_of_ble_eq_true rfl, Nat.le_of_ble_eq_true rfl⟩) hE hX hex hlocks hP hD hS hA _ f0_off rfl rfl rfl rfl hl.1 (Nat.le_of_ble_eq_true rfl) dX6_link_2 ⟨Nat.le_of_ble_eq_true rfl, Nat.le_of_ble_eq_true rfl⟩ (Nat.le_of_ble_eq_true rfl) (Nat.le_of_ble_eq_true rfl)

set_option maxHeartbeats 4000000 in
set_option maxRecDepth 100000 in
theorem x1_X6_link (l : Launch) {D : va_G} {y : Nat → Nat} {ws : va_W} {x_off_1 : Value} {x_off_2 : Value} {x_off_3 : Value} {x_off_4 : Value} {x_off_5 : Value} {x_off_6 : Value} {x_led_1 : Value} {x_led_2 : Value} {x_led_3 : Value} {x_led_4 : Value} {x_led_5 : Value} {x_led_8 : Value} {x_led_9 : Value} {x_itl_0 : Value} {p_off p_led p_itl p_lc p_lg a_off a_led a_itl a_lc a_lg a_ita : Nat} {lc : Nat → Nat} {lg : Nat → Nat} {i : Nat} {o ce gr : Int32} {nw n : Nat} (f0_off : ws[p_off]? = some (a_off, .inr (7, [.ref a_led, x_off_1, x_off_2, x_off_3, x_off_4, x_off_5, x_off_6, .int (nI (nw))]))) (f0_led : ws[p_led]? = some (a_led, .inr (3, [.ref a_itl, x_led_1, x_led_2, x_led_3, x_led_4, x_led_5, .ref a_lc, .ref a_lg, x_led_8, x_led_9]))) (f0_itl : ws[p_itl]? = some (a_itl, .inr (0, [x_itl_0, .ref a_ita, .int (nI (n))]))) (f0_lc : ws[p_lc]? = some (a_lc, eN y 1152 lc)) (f0_lg : ws[p_lg]? = some (a_lg, eN y 1152 lg)) (b_lc : ∀ k, lc k ≤ 100000) (b_lg : ∀ k, lg k ≤ 10000) (hfl : l.stackTraces = false) (hw : nw < 2 ^ 31) (hn : n ≤ 12) (hi : i < n) (hbad : o < 0 ∨ nI 4 ≤ o) : gMxv l yX6_link wsX6_link ({ frames := 7, cells := 1, slots := 6, locals := 120 }) D y [.ref a_off, .int (nI (i)), .int (o), .int (ce), .int (gr)] ws "java/lang/IndexOutOfBoundsException" := by
  refine g_metx_v (cc := cX6_link) (maxL := 6) (by decide) rfl (Nat.le_of_ble_eq_true rfl) ?_
  intro p e s m below meth c A hx hb hml hr hts hown hnm hlocks hE hP hD hS hA hex hX ls hl
  have hown : s.vm.findClass RX6 = some m.cls := hown
  have hl : lv_has ls 6 [(0, .ref a_off), (1, .int (nI (i))), (2, .int (o)), (3, .int (ce)), (4, .int (gr))] := hl
  refine lv_aload_n hx hb dX6_link_0 rfl (lv_at hl 0 rfl) ?_
  refine lv_iload_n hx hb dX6_link_1 rfl (lv_at hl 1 rfl) ?_
  refine gc_V_v (As := [.int (nI (i))]) (rest := []) (c_X6_requireItem l f0_off f0_led f0_itl (rq_lt hi (by omega))) ⟨hx, hb, hml, hown, hts⟩ (cwV 1 hts gX6_link_X6_requireItem rfl rfl rfl (by decide +kernel) ⟨Nat.le_of_ble_eq_true rfl, Nat.le_of_ble_eq_true rfl⟩) hE hP hD hS hA _ f0_off rfl rfl rfl rfl hl.1 (Nat.le_of_ble_eq_true rfl) dX6_link_2 ⟨Nat.le_of_ble_eq_true rfl, Nat.le_of_ble_eq_true rfl⟩ (fun u_2 H locs hP hD hS q_2 => ?_)
  refine lv_iload_n hx hb dX6_link_5 rfl (lv_at hl 2 rfl) ?_
  exact gcx_S_v (As := [.int (o)]) (rest := []) (x_X6_requireOutlet l hfl hbad) ⟨hx, hb, hml, hown, hts⟩ (va_cwS 1 hts gX6_link_X6_requireOutlet rfl rfl rfl (by decide +kernel) ⟨Nat.le_of_ble_eq_true rfl, Nat.le_of_ble_eq_true rfl⟩) hE hX hex hlocks hP hD hS hA rfl rfl hl.1 (Nat.le_of_ble_eq_true rfl) dX6_link_6 ⟨Nat.le_of_ble_eq_true rfl, Nat.le_of_ble_eq_true rfl⟩ (Nat.le_of_ble_eq_true rfl) (Nat.le_of_ble_eq_true rfl)

set_option maxHeartbeats 4000000 in
set_option maxRecDepth 100000 in
theorem x2_X6_link (l : Launch) {D : va_G} {y : Nat → Nat} {ws : va_W} {x_off_1 : Value} {x_off_2 : Value} {x_off_3 : Value} {x_off_4 : Value} {x_off_5 : Value} {x_off_6 : Value} {x_led_1 : Value} {x_led_2 : Value} {x_led_3 : Value} {x_led_4 : Value} {x_led_5 : Value} {x_led_8 : Value} {x_led_9 : Value} {x_itl_0 : Value} {p_off p_led p_itl p_lc p_lg a_off a_led a_itl a_lc a_lg a_ita : Nat} {lc : Nat → Nat} {lg : Nat → Nat} {i o : Nat} {ce gr : Int32} {nw n : Nat} (f0_off : ws[p_off]? = some (a_off, .inr (7, [.ref a_led, x_off_1, x_off_2, x_off_3, x_off_4, x_off_5, x_off_6, .int (nI (nw))]))) (f0_led : ws[p_led]? = some (a_led, .inr (3, [.ref a_itl, x_led_1, x_led_2, x_led_3, x_led_4, x_led_5, .ref a_lc, .ref a_lg, x_led_8, x_led_9]))) (f0_itl : ws[p_itl]? = some (a_itl, .inr (0, [x_itl_0, .ref a_ita, .int (nI (n))]))) (f0_lc : ws[p_lc]? = some (a_lc, eN y 1152 lc)) (f0_lg : ws[p_lg]? = some (a_lg, eN y 1152 lg)) (b_lc : ∀ k, lc k ≤ 100000) (b_lg : ∀ k, lg k ≤ 10000) (hfl : l.stackTraces = false) (hw : nw < 2 ^ 31) (hn : n ≤ 12) (hi : i < n) (ho : o < 4) (hbad : ce < nI 1 ∨ nI 100000 < ce) : gMxv l yX6_link wsX6_link ({ frames := 7, cells := 1, slots := 6, locals := 122 }) D y [.ref a_off, .int (nI (i)), .int (nI (o)), .int (ce), .int (gr)] ws "java/lang/IllegalArgumentException" := by
  refine g_metx_v (cc := cX6_link) (maxL := 6) (by decide) rfl (Nat.le_of_ble_eq_true rfl) ?_
  intro p e s m below meth c A hx hb hml hr hts hown hnm hlocks hE hP hD hS hA hex hX ls hl
  have hown : s.vm.findClass RX6 = some m.cls := hown
  have hl : lv_has ls 6 [(0, .ref a_off), (1, .int (nI (i))), (2, .int (nI (o))), (3, .int (ce)), (4, .int (gr))] := hl
  refine lv_aload_n hx hb dX6_link_0 rfl (lv_at hl 0 rfl) ?_
  refine lv_iload_n hx hb dX6_link_1 rfl (lv_at hl 1 rfl) ?_
  refine gc_V_v (As := [.int (nI (i))]) (rest := []) (c_X6_requireItem l f0_off f0_led f0_itl (rq_lt hi (by omega))) ⟨hx, hb, hml, hown, hts⟩ (cwV 1 hts gX6_link_X6_requireItem rfl rfl rfl (by decide +kernel) ⟨Nat.le_of_ble_eq_true rfl, Nat.le_of_ble_eq_true rfl⟩) hE hP hD hS hA _ f0_off rfl rfl rfl rfl hl.1 (Nat.le_of_ble_eq_true rfl) dX6_link_2 ⟨Nat.le_of_ble_eq_true rfl, Nat.le_of_ble_eq_true rfl⟩ (fun u_2 H locs hP hD hS q_2 => ?_)
  refine lv_iload_n hx hb dX6_link_5 rfl (lv_at hl 2 rfl) ?_
  refine gc_S_v (As := [.int (nI (o))]) (rest := []) (c_X6_requireOutlet l (rq_lt ho (by omega))) ⟨hx, hb, hml, hown, hts⟩ (va_cwS 1 hts gX6_link_X6_requireOutlet rfl rfl rfl (by decide +kernel) ⟨Nat.le_of_ble_eq_true rfl, Nat.le_of_ble_eq_true rfl⟩) hE hP hD hS hA rfl rfl hl.1 (Nat.le_of_ble_eq_true rfl) dX6_link_6 ⟨Nat.le_of_ble_eq_true rfl, Nat.le_of_ble_eq_true rfl⟩ (fun u_6 H locs hP hD hS q_6 => ?_)
  refine lv_iload_n hx hb dX6_link_9 rfl (lv_at hl 3 rfl) ?_
  refine lv_iconst (v := nI 1) hx hb dX6_link_10 (by decide) ?_
  refine lv_ldc (v := 100000) hx hb hown (hts (.constant RX6 89 (100000)) (by decide +kernel)) dX6_link_11 ?_
  rw [show (100000 : Int32) = nI 100000 from by decide]
  exact gcx_S_v (As := [.int (ce), .int (nI (1)), .int (nI (100000))]) (rest := []) (x_X6_requireRange l hfl hbad) ⟨hx, hb, hml, hown, hts⟩ (va_cwS 3 hts gX6_link_X6_requireRange rfl rfl rfl (by decide +kernel) ⟨Nat.le_of_ble_eq_true rfl, Nat.le_of_ble_eq_true rfl⟩) hE hX hex hlocks hP hD hS hA rfl rfl hl.1 (Nat.le_of_ble_eq_true rfl) dX6_link_13 ⟨Nat.le_of_ble_eq_true rfl, Nat.le_of_ble_eq_true rfl⟩ (Nat.le_of_ble_eq_true rfl) (Nat.le_of_ble_eq_true rfl)

set_option maxHeartbeats 4000000 in
set_option maxRecDepth 100000 in
theorem x3_X6_link (l : Launch) {D : va_G} {y : Nat → Nat} {ws : va_W} {x_off_1 : Value} {x_off_2 : Value} {x_off_3 : Value} {x_off_4 : Value} {x_off_5 : Value} {x_off_6 : Value} {x_led_1 : Value} {x_led_2 : Value} {x_led_3 : Value} {x_led_4 : Value} {x_led_5 : Value} {x_led_8 : Value} {x_led_9 : Value} {x_itl_0 : Value} {p_off p_led p_itl p_lc p_lg a_off a_led a_itl a_lc a_lg a_ita : Nat} {lc : Nat → Nat} {lg : Nat → Nat} {i o ce : Nat} {gr : Int32} {nw n : Nat} (f0_off : ws[p_off]? = some (a_off, .inr (7, [.ref a_led, x_off_1, x_off_2, x_off_3, x_off_4, x_off_5, x_off_6, .int (nI (nw))]))) (f0_led : ws[p_led]? = some (a_led, .inr (3, [.ref a_itl, x_led_1, x_led_2, x_led_3, x_led_4, x_led_5, .ref a_lc, .ref a_lg, x_led_8, x_led_9]))) (f0_itl : ws[p_itl]? = some (a_itl, .inr (0, [x_itl_0, .ref a_ita, .int (nI (n))]))) (f0_lc : ws[p_lc]? = some (a_lc, eN y 1152 lc)) (f0_lg : ws[p_lg]? = some (a_lg, eN y 1152 lg)) (b_lc : ∀ k, lc k ≤ 100000) (b_lg : ∀ k, lg k ≤ 10000) (hfl : l.stackTraces = false) (hw : nw < 2 ^ 31) (hn : n ≤ 12) (hi : i < n) (ho : o < 4) (hce : 1 ≤ ce) (kce : ce ≤ 100000) (hbad : gr < nI 1 ∨ nI 10000 < gr) : gMxv l yX6_link wsX6_link ({ frames := 7, cells := 1, slots := 6, locals := 122 }) D y [.ref a_off, .int (nI (i)), .int (nI (o)), .int (nI (ce)), .int (gr)] ws "java/lang/IllegalArgumentException" := by
  refine g_metx_v (cc := cX6_link) (maxL := 6) (by decide) rfl (Nat.le_of_ble_eq_true rfl) ?_
  intro p e s m below meth c A hx hb hml hr hts hown hnm hlocks hE hP hD hS hA hex hX ls hl
  have hown : s.vm.findClass RX6 = some m.cls := hown
  have hl : lv_has ls 6 [(0, .ref a_off), (1, .int (nI (i))), (2, .int (nI (o))), (3, .int (nI (ce))), (4, .int (gr))] := hl
  refine lv_aload_n hx hb dX6_link_0 rfl (lv_at hl 0 rfl) ?_
  refine lv_iload_n hx hb dX6_link_1 rfl (lv_at hl 1 rfl) ?_
  refine gc_V_v (As := [.int (nI (i))]) (rest := []) (c_X6_requireItem l f0_off f0_led f0_itl (rq_lt hi (by omega))) ⟨hx, hb, hml, hown, hts⟩ (cwV 1 hts gX6_link_X6_requireItem rfl rfl rfl (by decide +kernel) ⟨Nat.le_of_ble_eq_true rfl, Nat.le_of_ble_eq_true rfl⟩) hE hP hD hS hA _ f0_off rfl rfl rfl rfl hl.1 (Nat.le_of_ble_eq_true rfl) dX6_link_2 ⟨Nat.le_of_ble_eq_true rfl, Nat.le_of_ble_eq_true rfl⟩ (fun u_2 H locs hP hD hS q_2 => ?_)
  refine lv_iload_n hx hb dX6_link_5 rfl (lv_at hl 2 rfl) ?_
  refine gc_S_v (As := [.int (nI (o))]) (rest := []) (c_X6_requireOutlet l (rq_lt ho (by omega))) ⟨hx, hb, hml, hown, hts⟩ (va_cwS 1 hts gX6_link_X6_requireOutlet rfl rfl rfl (by decide +kernel) ⟨Nat.le_of_ble_eq_true rfl, Nat.le_of_ble_eq_true rfl⟩) hE hP hD hS hA rfl rfl hl.1 (Nat.le_of_ble_eq_true rfl) dX6_link_6 ⟨Nat.le_of_ble_eq_true rfl, Nat.le_of_ble_eq_true rfl⟩ (fun u_6 H locs hP hD hS q_6 => ?_)
  refine lv_iload_n hx hb dX6_link_9 rfl (lv_at hl 3 rfl) ?_
  refine lv_iconst (v := nI 1) hx hb dX6_link_10 (by decide) ?_
  refine lv_ldc (v := 100000) hx hb hown (hts (.constant RX6 89 (100000)) (by decide +kernel)) dX6_link_11 ?_
  rw [show (100000 : Int32) = nI 100000 from by decide]
  refine gc_S_v (As := [.int (nI (ce)), .int (nI (1)), .int (nI (100000))]) (rest := []) (c_X6_requireRange l (rq_rg hce kce (by decide))) ⟨hx, hb, hml, hown, hts⟩ (va_cwS 3 hts gX6_link_X6_requireRange rfl rfl rfl (by decide +kernel) ⟨Nat.le_of_ble_eq_true rfl, Nat.le_of_ble_eq_true rfl⟩) hE hP hD hS hA rfl rfl hl.1 (Nat.le_of_ble_eq_true rfl) dX6_link_13 ⟨Nat.le_of_ble_eq_true rfl, Nat.le_of_ble_eq_true rfl⟩ (fun u_13 H locs hP hD hS q_13 => ?_)
  refine lv_iload hx hb dX6_link_16 (lv_at hl 4 rfl) ?_
  refine lv_iconst (v := nI 1) hx hb dX6_link_18 (by decide) ?_
  refine lv_sipush (v := nI 10000) hx hb dX6_link_19 (by decide) ?_
  exact gcx_S_v (As := [.int (gr), .int (nI (1)), .int (nI (10000))]) (rest := []) (x_X6_requireRange l hfl hbad) ⟨hx, hb, hml, hown, hts⟩ (va_cwS 3 hts gX6_link_X6_requireRange rfl rfl rfl (by decide +kernel) ⟨Nat.le_of_ble_eq_true rfl, Nat.le_of_ble_eq_true rfl⟩) hE hX hex hlocks hP hD hS hA rfl rfl hl.1 (Nat.le_of_ble_eq_true rfl) dX6_link_22 ⟨Nat.le_of_ble_eq_true rfl, Nat.le_of_ble_eq_true rfl⟩ (Nat.le_of_ble_eq_true rfl) (Nat.le_of_ble_eq_true rfl)

set_option maxHeartbeats 4000000 in
set_option maxRecDepth 100000 in
theorem x4_X6_link (l : Launch) {D : va_G} {y : Nat → Nat} {ws : va_W} {x_off_1 : Value} {x_off_2 : Value} {x_off_3 : Value} {x_off_4 : Value} {x_off_5 : Value} {x_off_6 : Value} {x_led_1 : Value} {x_led_2 : Value} {x_led_3 : Value} {x_led_4 : Value} {x_led_5 : Value} {x_led_8 : Value} {x_led_9 : Value} {x_itl_0 : Value} {p_off p_led p_itl p_lc p_lg a_off a_led a_itl a_lc a_lg a_ita : Nat} {lc : Nat → Nat} {lg : Nat → Nat} {i o ce gr : Nat} {nw n : Nat} (f0_off : ws[p_off]? = some (a_off, .inr (7, [.ref a_led, x_off_1, x_off_2, x_off_3, x_off_4, x_off_5, x_off_6, .int (nI (nw))]))) (f0_led : ws[p_led]? = some (a_led, .inr (3, [.ref a_itl, x_led_1, x_led_2, x_led_3, x_led_4, x_led_5, .ref a_lc, .ref a_lg, x_led_8, x_led_9]))) (f0_itl : ws[p_itl]? = some (a_itl, .inr (0, [x_itl_0, .ref a_ita, .int (nI (n))]))) (f0_lc : ws[p_lc]? = some (a_lc, eN y 1152 lc)) (f0_lg : ws[p_lg]? = some (a_lg, eN y 1152 lg)) (b_lc : ∀ k, lc k ≤ 100000) (b_lg : ∀ k, lg k ≤ 10000) (hfl : l.stackTraces = false) (hw : nw < 2 ^ 31) (hn : n ≤ 12) (hi : i < n) (ho : o < 4) (hce : 1 ≤ ce) (kce : ce ≤ 100000) (hgr : 1 ≤ gr) (kgr : gr ≤ 10000) (hbad : 24 ≤ nw) : gMxv l yX6_link wsX6_link ({ frames := 7, cells := 1, slots := 6, locals := 120 }) D y [.ref a_off, .int (nI (i)), .int (nI (o)), .int (nI (ce)), .int (nI (gr))] ws "java/lang/IllegalStateException" := by
  refine g_metx_v (cc := cX6_link) (maxL := 6) (by decide) rfl (Nat.le_of_ble_eq_true rfl) ?_
  intro p e s m below meth c A hx hb hml hr hts hown hnm hlocks hE hP hD hS hA hex hX ls hl
  have hown : s.vm.findClass RX6 = some m.cls := hown
  have hl : lv_has ls 6 [(0, .ref a_off), (1, .int (nI (i))), (2, .int (nI (o))), (3, .int (nI (ce))), (4, .int (nI (gr)))] := hl
  refine lv_aload_n hx hb dX6_link_0 rfl (lv_at hl 0 rfl) ?_
  refine lv_iload_n hx hb dX6_link_1 rfl (lv_at hl 1 rfl) ?_
  refine gc_V_v (As := [.int (nI (i))]) (rest := []) (c_X6_requireItem l f0_off f0_led f0_itl (rq_lt hi (by omega))) ⟨hx, hb, hml, hown, hts⟩ (cwV 1 hts gX6_link_X6_requireItem rfl rfl rfl (by decide +kernel) ⟨Nat.le_of_ble_eq_true rfl, Nat.le_of_ble_eq_true rfl⟩) hE hP hD hS hA _ f0_off rfl rfl rfl rfl hl.1 (Nat.le_of_ble_eq_true rfl) dX6_link_2 ⟨Nat.le_of_ble_eq_true rfl, Nat.le_of_ble_eq_true rfl⟩ (fun u_2 H locs hP hD hS q_2 => ?_)
  refine lv_iload_n hx hb dX6_link_5 rfl (lv_at hl 2 rfl) ?_
  refine gc_S_v (As := [.int (nI (o))]) (rest := []) (c_X6_requireOutlet l (rq_lt ho (by omega))) ⟨hx, hb, hml, hown, hts⟩ (va_cwS 1 hts gX6_link_X6_requireOutlet rfl rfl rfl (by decide +kernel) ⟨Nat.le_of_ble_eq_true rfl, Nat.le_of_ble_eq_true rfl⟩) hE hP hD hS hA rfl rfl hl.1 (Nat.le_of_ble_eq_true rfl) dX6_link_6 ⟨Nat.le_of_ble_eq_true rfl, Nat.le_of_ble_eq_true rfl⟩ (fun u_6 H locs hP hD hS q_6 => ?_)
  refine lv_iload_n hx hb dX6_link_9 rfl (lv_at hl 3 rfl) ?_
  refine lv_iconst (v := nI 1) hx hb dX6_link_10 (by decide) ?_
  refine lv_ldc (v := 100000) hx hb hown (hts (.constant RX6 89 (100000)) (by decide +kernel)) dX6_link_11 ?_
  rw [show (100000 : Int32) = nI 100000 from by decide]
  refine gc_S_v (As := [.int (nI (ce)), .int (nI (1)), .int (nI (100000))]) (rest := []) (c_X6_requireRange l (rq_rg hce kce (by decide))) ⟨hx, hb, hml, hown, hts⟩ (va_cwS 3 hts gX6_link_X6_requireRange rfl rfl rfl (by decide +kernel) ⟨Nat.le_of_ble_eq_true rfl, Nat.le_of_ble_eq_true rfl⟩) hE hP hD hS hA rfl rfl hl.1 (Nat.le_of_ble_eq_true rfl) dX6_link_13 ⟨Nat.le_of_ble_eq_true rfl, Nat.le_of_ble_eq_true rfl⟩ (fun u_13 H locs hP hD hS q_13 => ?_)
  refine lv_iload hx hb dX6_link_16 (lv_at hl 4 rfl) ?_
  refine lv_iconst (v := nI 1) hx hb dX6_link_18 (by decide) ?_
  refine lv_sipush (v := nI 10000) hx hb dX6_link_19 (by decide) ?_
  refine gc_S_v (As := [.int (nI (gr)), .int (nI (1)), .int (nI (10000))]) (rest := []) (c_X6_requireRange l (rq_rg hgr kgr (by decide))) ⟨hx, hb, hml, hown, hts⟩ (va_cwS 3 hts gX6_link_X6_requireRange rfl rfl rfl (by decide +kernel) ⟨Nat.le_of_ble_eq_true rfl, Nat.le_of_ble_eq_true rfl⟩) hE hP hD hS hA rfl rfl hl.1 (Nat.le_of_ble_eq_true rfl) dX6_link_22 ⟨Nat.le_of_ble_eq_true rfl, Nat.le_of_ble_eq_true rfl⟩ (fun u_22 H locs hP hD hS q_22 => ?_)
  refine lv_aload_n hx hb dX6_link_25 rfl (lv_at hl 0 rfl) ?_
  exact gcx_V_v (As := []) (rest := []) (x_X6_requireCollecting l f0_off hfl hbad (by omega)) ⟨hx, hb, hml, hown, hts⟩ (cwV 0 hts gX6_link_X6_requireCollecting rfl rfl rfl (by decide +kernel) ⟨Nat.le_of_ble_eq_true rfl, Nat.le_of_ble_eq_true rfl⟩) hE hX hex hlocks hP hD hS hA _ f0_off rfl rfl rfl rfl hl.1 (Nat.le_of_ble_eq_true rfl) dX6_link_26 ⟨Nat.le_of_ble_eq_true rfl, Nat.le_of_ble_eq_true rfl⟩ (Nat.le_of_ble_eq_true rfl) (Nat.le_of_ble_eq_true rfl)

theorem in_x5_X6_link_RX6 : ∀ w ∈ wsX60, w ∈ wsX6_link := by decide +kernel
theorem inx_x5_X6_link_72 : ∀ w ∈ (vx_atS RX6 72 "java/lang/IllegalStateException" ["java/lang/RuntimeException", "java/lang/Exception"]).filter goodWord, w ∈ wsX6_link := by decide +kernel
set_option maxHeartbeats 4000000 in
set_option maxRecDepth 100000 in
theorem x5_X6_link (l : Launch) {D : va_G} {y : Nat → Nat} {ws : va_W} {x_off_1 : Value} {x_off_2 : Value} {x_off_3 : Value} {x_off_4 : Value} {x_off_5 : Value} {x_off_6 : Value} {x_led_1 : Value} {x_led_2 : Value} {x_led_3 : Value} {x_led_4 : Value} {x_led_5 : Value} {x_led_8 : Value} {x_led_9 : Value} {x_itl_0 : Value} {p_off p_led p_itl p_lc p_lg a_off a_led a_itl a_lc a_lg a_ita : Nat} {lc : Nat → Nat} {lg : Nat → Nat} {i o ce gr : Nat} {nw n : Nat} (f0_off : ws[p_off]? = some (a_off, .inr (7, [.ref a_led, x_off_1, x_off_2, x_off_3, x_off_4, x_off_5, x_off_6, .int (nI (nw))]))) (f0_led : ws[p_led]? = some (a_led, .inr (3, [.ref a_itl, x_led_1, x_led_2, x_led_3, x_led_4, x_led_5, .ref a_lc, .ref a_lg, x_led_8, x_led_9]))) (f0_itl : ws[p_itl]? = some (a_itl, .inr (0, [x_itl_0, .ref a_ita, .int (nI (n))]))) (f0_lc : ws[p_lc]? = some (a_lc, eN y 1152 lc)) (f0_lg : ws[p_lg]? = some (a_lg, eN y 1152 lg)) (b_lc : ∀ k, lc k ≤ 100000) (b_lg : ∀ k, lg k ≤ 10000) (hfl : l.stackTraces = false) (hw : nw < 2 ^ 31) (hn : n ≤ 12) (hi : i < n) (ho : o < 4) (hce : 1 ≤ ce) (kce : ce ≤ 100000) (hgr : 1 ≤ gr) (kgr : gr ≤ 10000) (hnw : nw < 24) (hbad : 0 < lc (nw * 48 + i * 4 + o)) : gMxv l yX6_link wsX6_link ({ frames := 6, cells := 1, slots := 6, locals := 100 }) D y [.ref a_off, .int (nI (i)), .int (nI (o)), .int (nI (ce)), .int (nI (gr))] ws "java/lang/IllegalStateException" := by
  refine g_metx_v (cc := cX6_link) (maxL := 6) (by decide) rfl (Nat.le_of_ble_eq_true rfl) ?_
  intro p e s m below meth c A hx hb hml hr hts hown hnm hlocks hE hP hD hS hA hex hX ls hl
  have hown : s.vm.findClass RX6 = some m.cls := hown
  have hl : lv_has ls 6 [(0, .ref a_off), (1, .int (nI (i))), (2, .int (nI (o))), (3, .int (nI (ce))), (4, .int (nI (gr)))] := hl
  have in_RX6 := in_x5_X6_link_RX6
  refine lv_aload_n hx hb dX6_link_0 rfl (lv_at hl 0 rfl) ?_
  refine lv_iload_n hx hb dX6_link_1 rfl (lv_at hl 1 rfl) ?_
  refine gc_V_v (As := [.int (nI (i))]) (rest := []) (c_X6_requireItem l f0_off f0_led f0_itl (rq_lt hi (by omega))) ⟨hx, hb, hml, hown, hts⟩ (cwV 1 hts gX6_link_X6_requireItem rfl rfl rfl (by decide +kernel) ⟨Nat.le_of_ble_eq_true rfl, Nat.le_of_ble_eq_true rfl⟩) hE hP hD hS hA _ f0_off rfl rfl rfl rfl hl.1 (Nat.le_of_ble_eq_true rfl) dX6_link_2 ⟨Nat.le_of_ble_eq_true rfl, Nat.le_of_ble_eq_true rfl⟩ (fun u_2 H locs hP hD hS q_2 => ?_)
  refine lv_iload_n hx hb dX6_link_5 rfl (lv_at hl 2 rfl) ?_
  refine gc_S_v (As := [.int (nI (o))]) (rest := []) (c_X6_requireOutlet l (rq_lt ho (by omega))) ⟨hx, hb, hml, hown, hts⟩ (va_cwS 1 hts gX6_link_X6_requireOutlet rfl rfl rfl (by decide +kernel) ⟨Nat.le_of_ble_eq_true rfl, Nat.le_of_ble_eq_true rfl⟩) hE hP hD hS hA rfl rfl hl.1 (Nat.le_of_ble_eq_true rfl) dX6_link_6 ⟨Nat.le_of_ble_eq_true rfl, Nat.le_of_ble_eq_true rfl⟩ (fun u_6 H locs hP hD hS q_6 => ?_)
  refine lv_iload_n hx hb dX6_link_9 rfl (lv_at hl 3 rfl) ?_
  refine lv_iconst (v := nI 1) hx hb dX6_link_10 (by decide) ?_
  refine lv_ldc (v := 100000) hx hb hown (hts (.constant RX6 89 (100000)) (by decide +kernel)) dX6_link_11 ?_
  rw [show (100000 : Int32) = nI 100000 from by decide]
  refine gc_S_v (As := [.int (nI (ce)), .int (nI (1)), .int (nI (100000))]) (rest := []) (c_X6_requireRange l (rq_rg hce kce (by decide))) ⟨hx, hb, hml, hown, hts⟩ (va_cwS 3 hts gX6_link_X6_requireRange rfl rfl rfl (by decide +kernel) ⟨Nat.le_of_ble_eq_true rfl, Nat.le_of_ble_eq_true rfl⟩) hE hP hD hS hA rfl rfl hl.1 (Nat.le_of_ble_eq_true rfl) dX6_link_13 ⟨Nat.le_of_ble_eq_true rfl, Nat.le_of_ble_eq_true rfl⟩ (fun u_13 H locs hP hD hS q_13 => ?_)
  refine lv_iload hx hb dX6_link_16 (lv_at hl 4 rfl) ?_
  refine lv_iconst (v := nI 1) hx hb dX6_link_18 (by decide) ?_
  refine lv_sipush (v := nI 10000) hx hb dX6_link_19 (by decide) ?_
  refine gc_S_v (As := [.int (nI (gr)), .int (nI (1)), .int (nI (10000))]) (rest := []) (c_X6_requireRange l (rq_rg hgr kgr (by decide))) ⟨hx, hb, hml, hown, hts⟩ (va_cwS 3 hts gX6_link_X6_requireRange rfl rfl rfl (by decide +kernel) ⟨Nat.le_of_ble_eq_true rfl, Nat.le_of_ble_eq_true rfl⟩) hE hP hD hS hA rfl rfl hl.1 (Nat.le_of_ble_eq_true rfl) dX6_link_22 ⟨Nat.le_of_ble_eq_true rfl, Nat.le_of_ble_eq_true rfl⟩ (fun u_22 H locs hP hD hS q_22 => ?_)
  refine lv_aload_n hx hb dX6_link_25 rfl (lv_at hl 0 rfl) ?_
  refine gc_V_v (As := []) (rest := []) (c_X6_requireCollecting l f0_off (by omega)) ⟨hx, hb, hml, hown, hts⟩ (cwV 0 hts gX6_link_X6_requireCollecting rfl rfl rfl (by decide +kernel) ⟨Nat.le_of_ble_eq_true rfl, Nat.le_of_ble_eq_true rfl⟩) hE hP hD hS hA _ f0_off rfl rfl rfl rfl hl.1 (Nat.le_of_ble_eq_true rfl) dX6_link_26 ⟨Nat.le_of_ble_eq_true rfl, Nat.le_of_ble_eq_true rfl⟩ (fun u_26 H locs hP hD hS q_26 => ?_)
  refine lv_iload_n hx hb dX6_link_29 rfl (lv_at hl 1 rfl) ?_
  refine lv_iload_n hx hb dX6_link_30 rfl (lv_at hl 2 rfl) ?_
  refine lv_aload_n hx hb dX6_link_31 rfl (lv_at hl 0 rfl) ?_
  refine va_get (D := D) (ci := 7) (v := .int (nI (nw))) (C := RX6) (T := TX6) (N := 8) hx hb hts in_RX6 hown hE.1 (gv1 hP f0_off) 0 rfl rfl 7 (by decide) (hts (.fieldLink RX6 49 "BasketryOffice" "now" "I") (by decide +kernel)) (fun _ h9 => h9) rfl dX6_link_32 ?_
  refine gc_S_i (As := [.int (nI (i)), .int (nI (o)), .int (nI (nw))]) (rest := []) (c_X6_slotOf l) ⟨hx, hb, hml, hown, hts⟩ (va_cwS 3 hts gX6_link_X6_slotOf rfl rfl rfl (by decide +kernel) ⟨Nat.le_of_ble_eq_true rfl, Nat.le_of_ble_eq_true rfl⟩) hE hP hD hS hA rfl rfl hl.1 (Nat.le_of_ble_eq_true rfl) dX6_link_35 ⟨Nat.le_of_ble_eq_true rfl, Nat.le_of_ble_eq_true rfl⟩ (fun r_35 u_35 H locs hP hD hS q_35 => ?_)
  subst q_35
  refine lv_istore (lv' := [(5, .int (nI (nw * 48 + i * 4 + o))), (0, .ref a_off), (1, .int (nI (i))), (2, .int (nI (o))), (3, .int (nI (ce))), (4, .int (nI (gr)))]) hx hb dX6_link_38 hl (by decide) rfl (fun ls hl => ?_)
  refine lv_aload_n hx hb dX6_link_40 rfl (lv_at hl 1 rfl) ?_
  refine va_get (D := D) (ci := 7) (v := .ref a_led) (C := RX6) (T := TX6) (N := 8) hx hb hts in_RX6 hown hE.1 (gv1 hP f0_off) 0 rfl rfl 0 (by decide) (hts (.fieldLink RX6 12 "BasketryOffice" "ledger" "LBasketryOffice$Ledger;") (by decide +kernel)) (fun _ h9 => h9) rfl dX6_link_41 ?_
  refine lv_iload hx hb dX6_link_44 (lv_at hl 0 rfl) ?_
  refine gc_V_i (As := [.int (nI (nw * 48 + i * 4 + o))]) (rest := []) (c_X2_hasLink l f0_led f0_lc b_lc (by omega)) ⟨hx, hb, hml, hown, hts⟩ (cwV 1 hts gX6_link_X2_hasLink rfl rfl rfl (by decide +kernel) ⟨Nat.le_of_ble_eq_true rfl, Nat.le_of_ble_eq_true rfl⟩) hE hP hD hS hA _ f0_led rfl rfl rfl rfl hl.1 (Nat.le_of_ble_eq_true rfl) dX6_link_46 ⟨Nat.le_of_ble_eq_true rfl, Nat.le_of_ble_eq_true rfl⟩ (fun r_46 u_46 H locs hP hD hS q_46 => ?_)
  subst q_46
  refine g_bif_eq (tgt := 62) hx hb dX6_link_49 (by decide) (fun c_49 => absurd c_49 (by rw [decide_eq_true hbad]; decide)) (fun c_49 => ?_)
  exact g_throwS hx hb hfl (cls := "java/lang/IllegalStateException") (text := "there is a link") (names := ["java/lang/RuntimeException", "java/lang/Exception"]) (ik := 68) (is := 128) (ic := 72) hown (by decide +kernel) htex_72 (hts (.classLink RX6 68 "java/lang/IllegalStateException") (by decide +kernel)) (hts (.initialized "java/lang/IllegalStateException") (by decide +kernel)) (by decide +kernel) (fun w hw => hts w (inx_x5_X6_link_72 w hw)) hat2_72 (vx_c (va_Nw.use rfl (hE.2 _ hnest_72)) (vx_c (va_Nw.use rfl (hE.2 _ hnest_r)) (vx_c (va_Nw.use rfl (hE.2 _ hnest_e)) (vx_c (va_Nw.use rfl (hE.2 _ hnest_t)) vx_n)))) hgood_72 hX hS hP hD (hl.1.trans hml.symm) hex hlocks dX6_link_52 dX6_link_55 dX6_link_56 dX6_link_58 dX6_link_61 (Nat.le_of_ble_eq_true rfl) (Nat.le_of_ble_eq_true rfl) (Nat.le_of_ble_eq_true rfl) (Nat.le_of_ble_eq_true rfl) (Nat.le_of_ble_eq_true rfl) (Nat.le_of_ble_eq_true rfl)

theorem in_c_X6_link_RX6 : ∀ w ∈ wsX60, w ∈ wsX6_link := by decide +kernel
set_option maxHeartbeats 4000000 in
set_option maxRecDepth 100000 in
theorem c_X6_link (l : Launch) {D : va_G} {y : Nat → Nat} {ws : va_W} {x_off_1 : Value} {x_off_2 : Value} {x_off_3 : Value} {x_off_4 : Value} {x_off_5 : Value} {x_off_6 : Value} {x_led_1 : Value} {x_led_2 : Value} {x_led_3 : Value} {x_led_4 : Value} {x_led_5 : Value} {x_led_8 : Value} {x_led_9 : Value} {x_itl_0 : Value} {p_off p_led p_itl p_lc p_lg a_off a_led a_itl a_lc a_lg a_ita : Nat} {lc : Nat → Nat} {lg : Nat → Nat} {i o ce gr : Nat} {nw n : Nat} (f0_off : ws[p_off]? = some (a_off, .inr (7, [.ref a_led, x_off_1, x_off_2, x_off_3, x_off_4, x_off_5, x_off_6, .int (nI (nw))]))) (f0_led : ws[p_led]? = some (a_led, .inr (3, [.ref a_itl, x_led_1, x_led_2, x_led_3, x_led_4, x_led_5, .ref a_lc, .ref a_lg, x_led_8, x_led_9]))) (f0_itl : ws[p_itl]? = some (a_itl, .inr (0, [x_itl_0, .ref a_ita, .int (nI (n))]))) (f0_lc : ws[p_lc]? = some (a_lc, eN y 1152 lc)) (f0_lg : ws[p_lg]? = some (a_lg, eN y 1152 lg)) (b_lc : ∀ k, lc k ≤ 100000) (b_lg : ∀ k, lg k ≤ 10000) (hw : nw < 2 ^ 31) (hn : n ≤ 12) (hi : i < n) (ho : o < 4) (hce : 1 ≤ ce) (kce : ce ≤ 100000) (hgr : 1 ≤ gr) (kgr : gr ≤ 10000) (hnw : nw < 24) (hlk : lc (nw * 48 + i * 4 + o) = 0) (hdis : p_lc ≠ p_lg) : gMv l yX6_link wsX6_link ({ frames := 2, cells := 0, slots := 0, locals := 41 }) D y [.ref a_off, .int (nI (i)), .int (nI (o)), .int (nI (ce)), .int (nI (gr))] ws (fun (_ : Unit) => True) (fun (_ : Unit) => ((ws.set p_lc (a_lc, eN y 1152 (vf_upd lc (nw * 48 + i * 4 + o) (ce)))).set p_lg (a_lg, eN y 1152 (vf_upd lg (nw * 48 + i * 4 + o) (gr))))) := by
  refine g_met_v (cc := cX6_link) (maxL := 6) (by decide) rfl (Nat.le_of_ble_eq_true rfl) ?_
  intro p e s m below meth c A hx hb hml hr hts hown hnm hlocks hE hP hD hS hA ls hl
  have hown : s.vm.findClass RX6 = some m.cls := hown
  have hl : lv_has ls 6 [(0, .ref a_off), (1, .int (nI (i))), (2, .int (nI (o))), (3, .int (nI (ce))), (4, .int (nI (gr)))] := hl
  have in_RX6 := in_c_X6_link_RX6
  refine lv_aload_n hx hb dX6_link_0 rfl (lv_at hl 0 rfl) ?_
  refine lv_iload_n hx hb dX6_link_1 rfl (lv_at hl 1 rfl) ?_
  refine gc_V_v (As := [.int (nI (i))]) (rest := []) (c_X6_requireItem l f0_off f0_led f0_itl (rq_lt hi (by omega))) ⟨hx, hb, hml, hown, hts⟩ (cwV 1 hts gX6_link_X6_requireItem rfl rfl rfl (by decide +kernel) ⟨Nat.le_of_ble_eq_true rfl, Nat.le_of_ble_eq_true rfl⟩) hE hP hD hS hA _ f0_off rfl rfl rfl rfl hl.1 (Nat.le_of_ble_eq_true rfl) dX6_link_2 ⟨Nat.le_of_ble_eq_true rfl, Nat.le_of_ble_eq_true rfl⟩ (fun u_2 H locs hP hD hS q_2 => ?_)
  refine lv_iload_n hx hb dX6_link_5 rfl (lv_at hl 2 rfl) ?_
  refine gc_S_v (As := [.int (nI (o))]) (rest := []) (c_X6_requireOutlet l (rq_lt ho (by omega))) ⟨hx, hb, hml, hown, hts⟩ (va_cwS 1 hts gX6_link_X6_requireOutlet rfl rfl rfl (by decide +kernel) ⟨Nat.le_of_ble_eq_true rfl, Nat.le_of_ble_eq_true rfl⟩) hE hP hD hS hA rfl rfl hl.1 (Nat.le_of_ble_eq_true rfl) dX6_link_6 ⟨Nat.le_of_ble_eq_true rfl, Nat.le_of_ble_eq_true rfl⟩ (fun u_6 H locs hP hD hS q_6 => ?_)
  refine lv_iload_n hx hb dX6_link_9 rfl (lv_at hl 3 rfl) ?_
  refine lv_iconst (v := nI 1) hx hb dX6_link_10 (by decide) ?_
  refine lv_ldc (v := 100000) hx hb hown (hts (.constant RX6 89 (100000)) (by decide +kernel)) dX6_link_11 ?_
  rw [show (100000 : Int32) = nI 100000 from by decide]
  refine gc_S_v (As := [.int (nI (ce)), .int (nI (1)), .int (nI (100000))]) (rest := []) (c_X6_requireRange l (rq_rg hce kce (by decide))) ⟨hx, hb, hml, hown, hts⟩ (va_cwS 3 hts gX6_link_X6_requireRange rfl rfl rfl (by decide +kernel) ⟨Nat.le_of_ble_eq_true rfl, Nat.le_of_ble_eq_true rfl⟩) hE hP hD hS hA rfl rfl hl.1 (Nat.le_of_ble_eq_true rfl) dX6_link_13 ⟨Nat.le_of_ble_eq_true rfl, Nat.le_of_ble_eq_true rfl⟩ (fun u_13 H locs hP hD hS q_13 => ?_)
  refine lv_iload hx hb dX6_link_16 (lv_at hl 4 rfl) ?_
  refine lv_iconst (v := nI 1) hx hb dX6_link_18 (by decide) ?_
  refine lv_sipush (v := nI 10000) hx hb dX6_link_19 (by decide) ?_
  refine gc_S_v (As := [.int (nI (gr)), .int (nI (1)), .int (nI (10000))]) (rest := []) (c_X6_requireRange l (rq_rg hgr kgr (by decide))) ⟨hx, hb, hml, hown, hts⟩ (va_cwS 3 hts gX6_link_X6_requireRange rfl rfl rfl (by decide +kernel) ⟨Nat.le_of_ble_eq_true rfl, Nat.le_of_ble_eq_true rfl⟩) hE hP hD hS hA rfl rfl hl.1 (Nat.le_of_ble_eq_true rfl) dX6_link_22 ⟨Nat.le_of_ble_eq_true rfl, Nat.le_of_ble_eq_true rfl⟩ (fun u_22 H locs hP hD hS q_22 => ?_)
  refine lv_aload_n hx hb dX6_link_25 rfl (lv_at hl 0 rfl) ?_
  refine gc_V_v (As := []) (rest := []) (c_X6_requireCollecting l f0_off (by omega)) ⟨hx, hb, hml, hown, hts⟩ (cwV 0 hts gX6_link_X6_requireCollecting rfl rfl rfl (by decide +kernel) ⟨Nat.le_of_ble_eq_true rfl, Nat.le_of_ble_eq_true rfl⟩) hE hP hD hS hA _ f0_off rfl rfl rfl rfl hl.1 (Nat.le_of_ble_eq_true rfl) dX6_link_26 ⟨Nat.le_of_ble_eq_true rfl, Nat.le_of_ble_eq_true rfl⟩ (fun u_26 H locs hP hD hS q_26 => ?_)
  refine lv_iload_n hx hb dX6_link_29 rfl (lv_at hl 1 rfl) ?_
  refine lv_iload_n hx hb dX6_link_30 rfl (lv_at hl 2 rfl) ?_
  refine lv_aload_n hx hb dX6_link_31 rfl (lv_at hl 0 rfl) ?_
  refine va_get (D := D) (ci := 7) (v := .int (nI (nw))) (C := RX6) (T := TX6) (N := 8) hx hb hts in_RX6 hown hE.1 (gv1 hP f0_off) 0 rfl rfl 7 (by decide) (hts (.fieldLink RX6 49 "BasketryOffice" "now" "I") (by decide +kernel)) (fun _ h9 => h9) rfl dX6_link_32 ?_
  refine gc_S_i (As := [.int (nI (i)), .int (nI (o)), .int (nI (nw))]) (rest := []) (c_X6_slotOf l) ⟨hx, hb, hml, hown, hts⟩ (va_cwS 3 hts gX6_link_X6_slotOf rfl rfl rfl (by decide +kernel) ⟨Nat.le_of_ble_eq_true rfl, Nat.le_of_ble_eq_true rfl⟩) hE hP hD hS hA rfl rfl hl.1 (Nat.le_of_ble_eq_true rfl) dX6_link_35 ⟨Nat.le_of_ble_eq_true rfl, Nat.le_of_ble_eq_true rfl⟩ (fun r_35 u_35 H locs hP hD hS q_35 => ?_)
  subst q_35
  refine lv_istore (lv' := [(5, .int (nI (nw * 48 + i * 4 + o))), (0, .ref a_off), (1, .int (nI (i))), (2, .int (nI (o))), (3, .int (nI (ce))), (4, .int (nI (gr)))]) hx hb dX6_link_38 hl (by decide) rfl (fun ls hl => ?_)
  refine lv_aload_n hx hb dX6_link_40 rfl (lv_at hl 1 rfl) ?_
  refine va_get (D := D) (ci := 7) (v := .ref a_led) (C := RX6) (T := TX6) (N := 8) hx hb hts in_RX6 hown hE.1 (gv1 hP f0_off) 0 rfl rfl 0 (by decide) (hts (.fieldLink RX6 12 "BasketryOffice" "ledger" "LBasketryOffice$Ledger;") (by decide +kernel)) (fun _ h9 => h9) rfl dX6_link_41 ?_
  refine lv_iload hx hb dX6_link_44 (lv_at hl 0 rfl) ?_
  refine gc_V_i (As := [.int (nI (nw * 48 + i * 4 + o))]) (rest := []) (c_X2_hasLink l f0_led f0_lc b_lc (by omega)) ⟨hx, hb, hml, hown, hts⟩ (cwV 1 hts gX6_link_X2_hasLink rfl rfl rfl (by decide +kernel) ⟨Nat.le_of_ble_eq_true rfl, Nat.le_of_ble_eq_true rfl⟩) hE hP hD hS hA _ f0_led rfl rfl rfl rfl hl.1 (Nat.le_of_ble_eq_true rfl) dX6_link_46 ⟨Nat.le_of_ble_eq_true rfl, Nat.le_of_ble_eq_true rfl⟩ (fun r_46 u_46 H locs hP hD hS q_46 => ?_)
  subst q_46
  refine g_bif_eq (tgt := 62) hx hb dX6_link_49 (by decide) (fun c_49 => ?_) (fun c_49 => absurd c_49 (by rw [hlk]; decide))
  refine lv_aload_n hx hb dX6_link_62 rfl (lv_at hl 1 rfl) ?_
  refine va_get (D := D) (ci := 7) (v := .ref a_led) (C := RX6) (T := TX6) (N := 8) hx hb hts in_RX6 hown hE.1 (gv1 hP f0_off) 0 rfl rfl 0 (by decide) (hts (.fieldLink RX6 12 "BasketryOffice" "ledger" "LBasketryOffice$Ledger;") (by decide +kernel)) (fun _ h9 => h9) rfl dX6_link_63 ?_
  refine lv_iload hx hb dX6_link_66 (lv_at hl 0 rfl) ?_
  refine lv_iload_n hx hb dX6_link_68 rfl (lv_at hl 4 rfl) ?_
  refine lv_iload hx hb dX6_link_69 (lv_at hl 5 rfl) ?_
  refine gc_V_v (As := [.int (nI (nw * 48 + i * 4 + o)), .int (nI (ce)), .int (nI (gr))]) (rest := []) (c_X2_putLink l f0_led f0_lc f0_lg b_lc b_lg (by omega) (by omega)) ⟨hx, hb, hml, hown, hts⟩ (cwV 3 hts gX6_link_X2_putLink rfl rfl rfl (by decide +kernel) ⟨Nat.le_of_ble_eq_true rfl, Nat.le_of_ble_eq_true rfl⟩) hE hP hD hS hA _ f0_led rfl rfl rfl rfl hl.1 (Nat.le_of_ble_eq_true rfl) dX6_link_71 ⟨Nat.le_of_ble_eq_true rfl, Nat.le_of_ble_eq_true rfl⟩ (fun u_71 H locs hP hD hS q_71 => ?_)
  have f_off := g_ne (x := (a_lg, eN y 1152 (vf_upd lg (nw * 48 + i * 4 + o) (gr)))) (g_kne f0_lg f0_off (Nat.ne_of_beq_eq_false rfl)) (g_ne (x := (a_lc, eN y 1152 (vf_upd lc (nw * 48 + i * 4 + o) (ce)))) (g_kne f0_lc f0_off (Nat.ne_of_beq_eq_false rfl)) (f0_off))
  have f_led := g_ne (x := (a_lg, eN y 1152 (vf_upd lg (nw * 48 + i * 4 + o) (gr)))) (g_kne f0_lg f0_led (Nat.ne_of_beq_eq_false rfl)) (g_ne (x := (a_lc, eN y 1152 (vf_upd lc (nw * 48 + i * 4 + o) (ce)))) (g_kne f0_lc f0_led (Nat.ne_of_beq_eq_false rfl)) (f0_led))
  have f_itl := g_ne (x := (a_lg, eN y 1152 (vf_upd lg (nw * 48 + i * 4 + o) (gr)))) (g_kne f0_lg f0_itl (Nat.ne_of_beq_eq_false rfl)) (g_ne (x := (a_lc, eN y 1152 (vf_upd lc (nw * 48 + i * 4 + o) (ce)))) (g_kne f0_lc f0_itl (Nat.ne_of_beq_eq_false rfl)) (f0_itl))
  have f_lc := g_ne (x := (a_lg, eN y 1152 (vf_upd lg (nw * 48 + i * 4 + o) (gr)))) (Ne.symm hdis) (g_eq (x := (a_lc, eN y 1152 (vf_upd lc (nw * 48 + i * 4 + o) (ce)))) (f0_lc))
  have f_lg := g_eq (x := (a_lg, eN y 1152 (vf_upd lg (nw * 48 + i * 4 + o) (gr)))) (g_ne (x := (a_lc, eN y 1152 (vf_upd lc (nw * 48 + i * 4 + o) (ce)))) hdis (f0_lg))
  refine g_vret hx hb hr hlocks () dX6_link_74 hS hP hD ?_
  exact trivial

set_option maxHeartbeats 4000000 in
set_option maxRecDepth 100000 in
theorem x0_X6_quote (l : Launch) {D : va_G} {y : Nat → Nat} {ws : va_W} {x_off_1 : Value} {x_off_2 : Value} {x_off_3 : Value} {x_off_4 : Value} {x_off_5 : Value} {x_off_6 : Value} {x_led_3 : Value} {x_itl_0 : Value} {p_off p_led p_itl p_cents p_grams p_cc p_ita a_off a_led a_itl a_cents a_grams a_cc a_ita a_fx a_lc a_lg : Nat} {cents : Nat → Nat} {grams : Nat → Nat} {cc : Nat → Nat} {q : Nat → Option Nat} {i o ce gr : Int32} {nw qn fq : Nat} {n cap : Nat} {ad G M Sn : Nat → Nat} (f0_off : ws[p_off]? = some (a_off, .inr (7, [.ref a_led, x_off_1, x_off_2, x_off_3, x_off_4, x_off_5, x_off_6, .int (nI (nw))]))) (f0_led : ws[p_led]? = some (a_led, .inr (3, [.ref a_itl, .ref a_cents, .ref a_grams, x_led_3, .ref a_cc, .ref a_fx, .ref a_lc, .ref a_lg, .int (nI (qn)), .int (nI (fq))]))) (f0_itl : ws[p_itl]? = some (a_itl, .inr (0, [x_itl_0, .ref a_ita, .int (nI (n))]))) (f0_cents : ws[p_cents]? = some (a_cents, eN y 1152 cents)) (f0_grams : ws[p_grams]? = some (a_grams, eN y 1152 grams)) (f0_cc : ws[p_cc]? = some (a_cc, eN y 1152 cc)) (f0_ita : ws[p_ita]? = some (a_ita, eQ y cap q)) (b_cents : ∀ k, cents k ≤ 100000) (b_grams : ∀ k, grams k ≤ 10000) (b_cc : ∀ k, cc k ≤ 100000) (hfl : l.stackTraces = false) (hw : nw < 2 ^ 31) (hSn : ∀ i, Sn i < 4096) (hdis : p_cents ≠ p_grams ∧ p_cents ≠ p_cc ∧ p_grams ≠ p_cc) (hn : n ≤ 12) (hIt : gIt ws n cap q ad G M Sn)  (hbad : i < 0 ∨ nI n ≤ i) : gMxi l yX6_quote wsX6_quote ({ frames := 7, cells := 1, slots := 6, locals := 121 }) D y [.ref a_off, .int (i), .int (o), .int (ce), .int (gr)] ws "java/lang/IndexOutOfBoundsException" := by
  refine g_metx_i (cc := cX6_quote) (maxL := 6) (by decide) rfl (Nat.le_of_ble_eq_true rfl) ?_
  intro p e s m below meth c A hx hb hml hr hts hown hnm hlocks hE hP hD hS hA hex hX ls hl
  have hown : s.vm.findClass RX6 = some m.cls := hown
  have hl : lv_has ls 6 [(0, .ref a_off), (1, .int (i)), (2, .int (o)), (3, .int (ce)), (4, .int (gr))] := hl
  have hItc := hIt
  refine lv_aload_n hx hb dX6_quote_0 rfl (lv_at hl 0 rfl) ?_
  refine lv_iload_n hx hb dX6_quote_1 rfl (lv_at hl 1 rfl) ?_
  exact gcx_V_v (As := [.int (i)]) (rest := []) (x_X6_requireItem l f0_off f0_led f0_itl hfl hbad) ⟨hx, hb, hml, hown, hts⟩ (cwV 1 hts gX6_quote_X6_requireItem rfl rfl rfl (by decide +kernel) ⟨Nat.le_of_ble_eq_true rfl, Nat.le_of_ble_eq_true rfl⟩) hE hX hex hlocks hP hD hS hA _ f0_off rfl rfl rfl rfl hl.1 (Nat.le_of_ble_eq_true rfl) dX6_quote_2 ⟨Nat.le_of_ble_eq_true rfl, Nat.le_of_ble_eq_true rfl⟩ (Nat.le_of_ble_eq_true rfl) (Nat.le_of_ble_eq_true rfl)

set_option maxHeartbeats 4000000 in
set_option maxRecDepth 100000 in
theorem x1_X6_quote (l : Launch) {D : va_G} {y : Nat → Nat} {ws : va_W} {x_off_1 : Value} {x_off_2 : Value} {x_off_3 : Value} {x_off_4 : Value} {x_off_5 : Value} {x_off_6 : Value} {x_led_3 : Value} {x_itl_0 : Value} {p_off p_led p_itl p_cents p_grams p_cc p_ita a_off a_led a_itl a_cents a_grams a_cc a_ita a_fx a_lc a_lg : Nat} {cents : Nat → Nat} {grams : Nat → Nat} {cc : Nat → Nat} {q : Nat → Option Nat} {i : Nat} {o ce gr : Int32} {nw qn fq : Nat} {n cap : Nat} {ad G M Sn : Nat → Nat} (f0_off : ws[p_off]? = some (a_off, .inr (7, [.ref a_led, x_off_1, x_off_2, x_off_3, x_off_4, x_off_5, x_off_6, .int (nI (nw))]))) (f0_led : ws[p_led]? = some (a_led, .inr (3, [.ref a_itl, .ref a_cents, .ref a_grams, x_led_3, .ref a_cc, .ref a_fx, .ref a_lc, .ref a_lg, .int (nI (qn)), .int (nI (fq))]))) (f0_itl : ws[p_itl]? = some (a_itl, .inr (0, [x_itl_0, .ref a_ita, .int (nI (n))]))) (f0_cents : ws[p_cents]? = some (a_cents, eN y 1152 cents)) (f0_grams : ws[p_grams]? = some (a_grams, eN y 1152 grams)) (f0_cc : ws[p_cc]? = some (a_cc, eN y 1152 cc)) (f0_ita : ws[p_ita]? = some (a_ita, eQ y cap q)) (b_cents : ∀ k, cents k ≤ 100000) (b_grams : ∀ k, grams k ≤ 10000) (b_cc : ∀ k, cc k ≤ 100000) (hfl : l.stackTraces = false) (hw : nw < 2 ^ 31) (hSn : ∀ i, Sn i < 4096) (hdis : p_cents ≠ p_grams ∧ p_cents ≠ p_cc ∧ p_grams ≠ p_cc) (hn : n ≤ 12) (hIt : gIt ws n cap q ad G M Sn) (hi : i < n) (hbad : o < 0 ∨ nI 4 ≤ o) : gMxi l yX6_quote wsX6_quote ({ frames := 7, cells := 1, slots := 6, locals := 120 }) D y [.ref a_off, .int (nI (i)), .int (o), .int (ce), .int (gr)] ws "java/lang/IndexOutOfBoundsException" := by
  refine g_metx_i (cc := cX6_quote) (maxL := 6) (by decide) rfl (Nat.le_of_ble_eq_true rfl) ?_
  intro p e s m below meth c A hx hb hml hr hts hown hnm hlocks hE hP hD hS hA hex hX ls hl
  have hown : s.vm.findClass RX6 = some m.cls := hown
  have hl : lv_has ls 6 [(0, .ref a_off), (1, .int (nI (i))), (2, .int (o)), (3, .int (ce)), (4, .int (gr))] := hl
  have hItc := hIt
  refine lv_aload_n hx hb dX6_quote_0 rfl (lv_at hl 0 rfl) ?_
  refine lv_iload_n hx hb dX6_quote_1 rfl (lv_at hl 1 rfl) ?_
  refine gc_V_v (As := [.int (nI (i))]) (rest := []) (c_X6_requireItem l f0_off f0_led f0_itl (rq_lt hi (by omega))) ⟨hx, hb, hml, hown, hts⟩ (cwV 1 hts gX6_quote_X6_requireItem rfl rfl rfl (by decide +kernel) ⟨Nat.le_of_ble_eq_true rfl, Nat.le_of_ble_eq_true rfl⟩) hE hP hD hS hA _ f0_off rfl rfl rfl rfl hl.1 (Nat.le_of_ble_eq_true rfl) dX6_quote_2 ⟨Nat.le_of_ble_eq_true rfl, Nat.le_of_ble_eq_true rfl⟩ (fun u_2 H locs hP hD hS q_2 => ?_)
  refine lv_iload_n hx hb dX6_quote_5 rfl (lv_at hl 2 rfl) ?_
  exact gcx_S_v (As := [.int (o)]) (rest := []) (x_X6_requireOutlet l hfl hbad) ⟨hx, hb, hml, hown, hts⟩ (va_cwS 1 hts gX6_quote_X6_requireOutlet rfl rfl rfl (by decide +kernel) ⟨Nat.le_of_ble_eq_true rfl, Nat.le_of_ble_eq_true rfl⟩) hE hX hex hlocks hP hD hS hA rfl rfl hl.1 (Nat.le_of_ble_eq_true rfl) dX6_quote_6 ⟨Nat.le_of_ble_eq_true rfl, Nat.le_of_ble_eq_true rfl⟩ (Nat.le_of_ble_eq_true rfl) (Nat.le_of_ble_eq_true rfl)

set_option maxHeartbeats 4000000 in
set_option maxRecDepth 100000 in
theorem x2_X6_quote (l : Launch) {D : va_G} {y : Nat → Nat} {ws : va_W} {x_off_1 : Value} {x_off_2 : Value} {x_off_3 : Value} {x_off_4 : Value} {x_off_5 : Value} {x_off_6 : Value} {x_led_3 : Value} {x_itl_0 : Value} {p_off p_led p_itl p_cents p_grams p_cc p_ita a_off a_led a_itl a_cents a_grams a_cc a_ita a_fx a_lc a_lg : Nat} {cents : Nat → Nat} {grams : Nat → Nat} {cc : Nat → Nat} {q : Nat → Option Nat} {i o : Nat} {ce gr : Int32} {nw qn fq : Nat} {n cap : Nat} {ad G M Sn : Nat → Nat} (f0_off : ws[p_off]? = some (a_off, .inr (7, [.ref a_led, x_off_1, x_off_2, x_off_3, x_off_4, x_off_5, x_off_6, .int (nI (nw))]))) (f0_led : ws[p_led]? = some (a_led, .inr (3, [.ref a_itl, .ref a_cents, .ref a_grams, x_led_3, .ref a_cc, .ref a_fx, .ref a_lc, .ref a_lg, .int (nI (qn)), .int (nI (fq))]))) (f0_itl : ws[p_itl]? = some (a_itl, .inr (0, [x_itl_0, .ref a_ita, .int (nI (n))]))) (f0_cents : ws[p_cents]? = some (a_cents, eN y 1152 cents)) (f0_grams : ws[p_grams]? = some (a_grams, eN y 1152 grams)) (f0_cc : ws[p_cc]? = some (a_cc, eN y 1152 cc)) (f0_ita : ws[p_ita]? = some (a_ita, eQ y cap q)) (b_cents : ∀ k, cents k ≤ 100000) (b_grams : ∀ k, grams k ≤ 10000) (b_cc : ∀ k, cc k ≤ 100000) (hfl : l.stackTraces = false) (hw : nw < 2 ^ 31) (hSn : ∀ i, Sn i < 4096) (hdis : p_cents ≠ p_grams ∧ p_cents ≠ p_cc ∧ p_grams ≠ p_cc) (hn : n ≤ 12) (hIt : gIt ws n cap q ad G M Sn) (hi : i < n) (ho : o < 4) (hbad : ce < nI 1 ∨ nI 100000 < ce) : gMxi l yX6_quote wsX6_quote ({ frames := 7, cells := 1, slots := 6, locals := 122 }) D y [.ref a_off, .int (nI (i)), .int (nI (o)), .int (ce), .int (gr)] ws "java/lang/IllegalArgumentException" := by
  refine g_metx_i (cc := cX6_quote) (maxL := 6) (by decide) rfl (Nat.le_of_ble_eq_true rfl) ?_
  intro p e s m below meth c A hx hb hml hr hts hown hnm hlocks hE hP hD hS hA hex hX ls hl
  have hown : s.vm.findClass RX6 = some m.cls := hown
  have hl : lv_has ls 6 [(0, .ref a_off), (1, .int (nI (i))), (2, .int (nI (o))), (3, .int (ce)), (4, .int (gr))] := hl
  have hItc := hIt
  refine lv_aload_n hx hb dX6_quote_0 rfl (lv_at hl 0 rfl) ?_
  refine lv_iload_n hx hb dX6_quote_1 rfl (lv_at hl 1 rfl) ?_
  refine gc_V_v (As := [.int (nI (i))]) (rest := []) (c_X6_requireItem l f0_off f0_led f0_itl (rq_lt hi (by omega))) ⟨hx, hb, hml, hown, hts⟩ (cwV 1 hts gX6_quote_X6_requireItem rfl rfl rfl (by decide +kernel) ⟨Nat.le_of_ble_eq_true rfl, Nat.le_of_ble_eq_true rfl⟩) hE hP hD hS hA _ f0_off rfl rfl rfl rfl hl.1 (Nat.le_of_ble_eq_true rfl) dX6_quote_2 ⟨Nat.le_of_ble_eq_true rfl, Nat.le_of_ble_eq_true rfl⟩ (fun u_2 H locs hP hD hS q_2 => ?_)
  refine lv_iload_n hx hb dX6_quote_5 rfl (lv_at hl 2 rfl) ?_
  refine gc_S_v (As := [.int (nI (o))]) (rest := []) (c_X6_requireOutlet l (rq_lt ho (by omega))) ⟨hx, hb, hml, hown, hts⟩ (va_cwS 1 hts gX6_quote_X6_requireOutlet rfl rfl rfl (by decide +kernel) ⟨Nat.le_of_ble_eq_true rfl, Nat.le_of_ble_eq_true rfl⟩) hE hP hD hS hA rfl rfl hl.1 (Nat.le_of_ble_eq_true rfl) dX6_quote_6 ⟨Nat.le_of_ble_eq_true rfl, Nat.le_of_ble_eq_true rfl⟩ (fun u_6 H locs hP hD hS q_6 => ?_)
  refine lv_iload_n hx hb dX6_quote_9 rfl (lv_at hl 3 rfl) ?_
  refine lv_iconst (v := nI 1) hx hb dX6_quote_10 (by decide) ?_
  refine lv_ldc (v := 100000) hx hb hown (hts (.constant RX6 89 (100000)) (by decide +kernel)) dX6_quote_11 ?_
  rw [show (100000 : Int32) = nI 100000 from by decide]
  exact gcx_S_v (As := [.int (ce), .int (nI (1)), .int (nI (100000))]) (rest := []) (x_X6_requireRange l hfl hbad) ⟨hx, hb, hml, hown, hts⟩ (va_cwS 3 hts gX6_quote_X6_requireRange rfl rfl rfl (by decide +kernel) ⟨Nat.le_of_ble_eq_true rfl, Nat.le_of_ble_eq_true rfl⟩) hE hX hex hlocks hP hD hS hA rfl rfl hl.1 (Nat.le_of_ble_eq_true rfl) dX6_quote_13 ⟨Nat.le_of_ble_eq_true rfl, Nat.le_of_ble_eq_true rfl⟩ (Nat.le_of_ble_eq_true rfl) (Nat.le_of_ble_eq_true rfl)

set_option maxHeartbeats 4000000 in
set_option maxRecDepth 100000 in
theorem x3_X6_quote (l : Launch) {D : va_G} {y : Nat → Nat} {ws : va_W} {x_off_1 : Value} {x_off_2 : Value} {x_off_3 : Value} {x_off_4 : Value} {x_off_5 : Value} {x_off_6 : Value} {x_led_3 : Value} {x_itl_0 : Value} {p_off p_led p_itl p_cents p_grams p_cc p_ita a_off a_led a_itl a_cents a_grams a_cc a_ita a_fx a_lc a_lg : Nat} {cents : Nat → Nat} {grams : Nat → Nat} {cc : Nat → Nat} {q : Nat → Option Nat} {i o ce : Nat} {gr : Int32} {nw qn fq : Nat} {n cap : Nat} {ad G M Sn : Nat → Nat} (f0_off : ws[p_off]? = some (a_off, .inr (7, [.ref a_led, x_off_1, x_off_2, x_off_3, x_off_4, x_off_5, x_off_6, .int (nI (nw))]))) (f0_led : ws[p_led]? = some (a_led, .inr (3, [.ref a_itl, .ref a_cents, .ref a_grams, x_led_3, .ref a_cc, .ref a_fx, .ref a_lc, .ref a_lg, .int (nI (qn)), .int (nI (fq))]))) (f0_itl : ws[p_itl]? = some (a_itl, .inr (0, [x_itl_0, .ref a_ita, .int (nI (n))]))) (f0_cents : ws[p_cents]? = some (a_cents, eN y 1152 cents)) (f0_grams : ws[p_grams]? = some (a_grams, eN y 1152 grams)) (f0_cc : ws[p_cc]? = some (a_cc, eN y 1152 cc)) (f0_ita : ws[p_ita]? = some (a_ita, eQ y cap q)) (b_cents : ∀ k, cents k ≤ 100000) (b_grams : ∀ k, grams k ≤ 10000) (b_cc : ∀ k, cc k ≤ 100000) (hfl : l.stackTraces = false) (hw : nw < 2 ^ 31) (hSn : ∀ i, Sn i < 4096) (hdis : p_cents ≠ p_grams ∧ p_cents ≠ p_cc ∧ p_grams ≠ p_cc) (hn : n ≤ 12) (hIt : gIt ws n cap q ad G M Sn) (hi : i < n) (ho : o < 4) (hce : 1 ≤ ce) (kce : ce ≤ 100000) (hbad : gr < nI 1 ∨ nI 10000 < gr) : gMxi l yX6_quote wsX6_quote ({ frames := 7, cells := 1, slots := 6, locals := 122 }) D y [.ref a_off, .int (nI (i)), .int (nI (o)), .int (nI (ce)), .int (gr)] ws "java/lang/IllegalArgumentException" := by
  refine g_metx_i (cc := cX6_quote) (maxL := 6) (by decide) rfl (Nat.le_of_ble_eq_true rfl) ?_
  intro p e s m below meth c A hx hb hml hr hts hown hnm hlocks hE hP hD hS hA hex hX ls hl
  have hown : s.vm.findClass RX6 = some m.cls := hown
  have hl : lv_has ls 6 [(0, .ref a_off), (1, .int (nI (i))), (2, .int (nI (o))), (3, .int (nI (ce))), (4, .int (gr))] := hl
  have hItc := hIt
  refine lv_aload_n hx hb dX6_quote_0 rfl (lv_at hl 0 rfl) ?_
  refine lv_iload_n hx hb dX6_quote_1 rfl (lv_at hl 1 rfl) ?_
  refine gc_V_v (As := [.int (nI (i))]) (rest := []) (c_X6_requireItem l f0_off f0_led f0_itl (rq_lt hi (by omega))) ⟨hx, hb, hml, hown, hts⟩ (cwV 1 hts gX6_quote_X6_requireItem rfl rfl rfl (by decide +kernel) ⟨Nat.le_of_ble_eq_true rfl, Nat.le_of_ble_eq_true rfl⟩) hE hP hD hS hA _ f0_off rfl rfl rfl rfl hl.1 (Nat.le_of_ble_eq_true rfl) dX6_quote_2 ⟨Nat.le_of_ble_eq_true rfl, Nat.le_of_ble_eq_true rfl⟩ (fun u_2 H locs hP hD hS q_2 => ?_)
  refine lv_iload_n hx hb dX6_quote_5 rfl (lv_at hl 2 rfl) ?_
  refine gc_S_v (As := [.int (nI (o))]) (rest := []) (c_X6_requireOutlet l (rq_lt ho (by omega))) ⟨hx, hb, hml, hown, hts⟩ (va_cwS 1 hts gX6_quote_X6_requireOutlet rfl rfl rfl (by decide +kernel) ⟨Nat.le_of_ble_eq_true rfl, Nat.le_of_ble_eq_true rfl⟩) hE hP hD hS hA rfl rfl hl.1 (Nat.le_of_ble_eq_true rfl) dX6_quote_6 ⟨Nat.le_of_ble_eq_true rfl, Nat.le_of_ble_eq_true rfl⟩ (fun u_6 H locs hP hD hS q_6 => ?_)
  refine lv_iload_n hx hb dX6_quote_9 rfl (lv_at hl 3 rfl) ?_
  refine lv_iconst (v := nI 1) hx hb dX6_quote_10 (by decide) ?_
  refine lv_ldc (v := 100000) hx hb hown (hts (.constant RX6 89 (100000)) (by decide +kernel)) dX6_quote_11 ?_
  rw [show (100000 : Int32) = nI 100000 from by decide]
  refine gc_S_v (As := [.int (nI (ce)), .int (nI (1)), .int (nI (100000))]) (rest := []) (c_X6_requireRange l (rq_rg hce kce (by decide))) ⟨hx, hb, hml, hown, hts⟩ (va_cwS 3 hts gX6_quote_X6_requireRange rfl rfl rfl (by decide +kernel) ⟨Nat.le_of_ble_eq_true rfl, Nat.le_of_ble_eq_true rfl⟩) hE hP hD hS hA rfl rfl hl.1 (Nat.le_of_ble_eq_true rfl) dX6_quote_13 ⟨Nat.le_of_ble_eq_true rfl, Nat.le_of_ble_eq_true rfl⟩ (fun u_13 H locs hP hD hS q_13 => ?_)
  refine lv_iload hx hb dX6_quote_16 (lv_at hl 4 rfl) ?_
  refine lv_iconst (v := nI 1) hx hb dX6_quote_18 (by decide) ?_
  refine lv_sipush (v := nI 10000) hx hb dX6_quote_19 (by decide) ?_
  exact gcx_S_v (As := [.int (gr), .int (nI (1)), .int (nI (10000))]) (rest := []) (x_X6_requireRange l hfl hbad) ⟨hx, hb, hml, hown, hts⟩ (va_cwS 3 hts gX6_quote_X6_requireRange rfl rfl rfl (by decide +kernel) ⟨Nat.le_of_ble_eq_true rfl, Nat.le_of_ble_eq_true rfl⟩) hE hX hex hlocks hP hD hS hA rfl rfl hl.1 (Nat.le_of_ble_eq_true rfl) dX6_quote_22 ⟨Nat.le_of_ble_eq_true rfl, Nat.le_of_ble_eq_true rfl⟩ (Nat.le_of_ble_eq_true rfl) (Nat.le_of_ble_eq_true rfl)

set_option maxHeartbeats 4000000 in
set_option maxRecDepth 100000 in
theorem x4_X6_quote (l : Launch) {D : va_G} {y : Nat → Nat} {ws : va_W} {x_off_1 : Value} {x_off_2 : Value} {x_off_3 : Value} {x_off_4 : Value} {x_off_5 : Value} {x_off_6 : Value} {x_led_3 : Value} {x_itl_0 : Value} {p_off p_led p_itl p_cents p_grams p_cc p_ita a_off a_led a_itl a_cents a_grams a_cc a_ita a_fx a_lc a_lg : Nat} {cents : Nat → Nat} {grams : Nat → Nat} {cc : Nat → Nat} {q : Nat → Option Nat} {i o ce gr : Nat} {nw qn fq : Nat} {n cap : Nat} {ad G M Sn : Nat → Nat} (f0_off : ws[p_off]? = some (a_off, .inr (7, [.ref a_led, x_off_1, x_off_2, x_off_3, x_off_4, x_off_5, x_off_6, .int (nI (nw))]))) (f0_led : ws[p_led]? = some (a_led, .inr (3, [.ref a_itl, .ref a_cents, .ref a_grams, x_led_3, .ref a_cc, .ref a_fx, .ref a_lc, .ref a_lg, .int (nI (qn)), .int (nI (fq))]))) (f0_itl : ws[p_itl]? = some (a_itl, .inr (0, [x_itl_0, .ref a_ita, .int (nI (n))]))) (f0_cents : ws[p_cents]? = some (a_cents, eN y 1152 cents)) (f0_grams : ws[p_grams]? = some (a_grams, eN y 1152 grams)) (f0_cc : ws[p_cc]? = some (a_cc, eN y 1152 cc)) (f0_ita : ws[p_ita]? = some (a_ita, eQ y cap q)) (b_cents : ∀ k, cents k ≤ 100000) (b_grams : ∀ k, grams k ≤ 10000) (b_cc : ∀ k, cc k ≤ 100000) (hfl : l.stackTraces = false) (hw : nw < 2 ^ 31) (hSn : ∀ i, Sn i < 4096) (hdis : p_cents ≠ p_grams ∧ p_cents ≠ p_cc ∧ p_grams ≠ p_cc) (hn : n ≤ 12) (hIt : gIt ws n cap q ad G M Sn) (hi : i < n) (ho : o < 4) (hce : 1 ≤ ce) (kce : ce ≤ 100000) (hgr : 1 ≤ gr) (kgr : gr ≤ 10000) (hbad : 24 ≤ nw) : gMxi l yX6_quote wsX6_quote ({ frames := 7, cells := 1, slots := 6, locals := 120 }) D y [.ref a_off, .int (nI (i)), .int (nI (o)), .int (nI (ce)), .int (nI (gr))] ws "java/lang/IllegalStateException" := by
  refine g_metx_i (cc := cX6_quote) (maxL := 6) (by decide) rfl (Nat.le_of_ble_eq_true rfl) ?_
  intro p e s m below meth c A hx hb hml hr hts hown hnm hlocks hE hP hD hS hA hex hX ls hl
  have hown : s.vm.findClass RX6 = some m.cls := hown
  have hl : lv_has ls 6 [(0, .ref a_off), (1, .int (nI (i))), (2, .int (nI (o))), (3, .int (nI (ce))), (4, .int (nI (gr)))] := hl
  have hItc := hIt
  refine lv_aload_n hx hb dX6_quote_0 rfl (lv_at hl 0 rfl) ?_
  refine lv_iload_n hx hb dX6_quote_1 rfl (lv_at hl 1 rfl) ?_
  refine gc_V_v (As := [.int (nI (i))]) (rest := []) (c_X6_requireItem l f0_off f0_led f0_itl (rq_lt hi (by omega))) ⟨hx, hb, hml, hown, hts⟩ (cwV 1 hts gX6_quote_X6_requireItem rfl rfl rfl (by decide +kernel) ⟨Nat.le_of_ble_eq_true rfl, Nat.le_of_ble_eq_true rfl⟩) hE hP hD hS hA _ f0_off rfl rfl rfl rfl hl.1 (Nat.le_of_ble_eq_true rfl) dX6_quote_2 ⟨Nat.le_of_ble_eq_true rfl, Nat.le_of_ble_eq_true rfl⟩ (fun u_2 H locs hP hD hS q_2 => ?_)
  refine lv_iload_n hx hb dX6_quote_5 rfl (lv_at hl 2 rfl) ?_
  refine gc_S_v (As := [.int (nI (o))]) (rest := []) (c_X6_requireOutlet l (rq_lt ho (by omega))) ⟨hx, hb, hml, hown, hts⟩ (va_cwS 1 hts gX6_quote_X6_requireOutlet rfl rfl rfl (by decide +kernel) ⟨Nat.le_of_ble_eq_true rfl, Nat.le_of_ble_eq_true rfl⟩) hE hP hD hS hA rfl rfl hl.1 (Nat.le_of_ble_eq_true rfl) dX6_quote_6 ⟨Nat.le_of_ble_eq_true rfl, Nat.le_of_ble_eq_true rfl⟩ (fun u_6 H locs hP hD hS q_6 => ?_)
  refine lv_iload_n hx hb dX6_quote_9 rfl (lv_at hl 3 rfl) ?_
  refine lv_iconst (v := nI 1) hx hb dX6_quote_10 (by decide) ?_
  refine lv_ldc (v := 100000) hx hb hown (hts (.constant RX6 89 (100000)) (by decide +kernel)) dX6_quote_11 ?_
  rw [show (100000 : Int32) = nI 100000 from by decide]
  refine gc_S_v (As := [.int (nI (ce)), .int (nI (1)), .int (nI (100000))]) (rest := []) (c_X6_requireRange l (rq_rg hce kce (by decide))) ⟨hx, hb, hml, hown, hts⟩ (va_cwS 3 hts gX6_quote_X6_requireRange rfl rfl rfl (by decide +kernel) ⟨Nat.le_of_ble_eq_true rfl, Nat.le_of_ble_eq_true rfl⟩) hE hP hD hS hA rfl rfl hl.1 (Nat.le_of_ble_eq_true rfl) dX6_quote_13 ⟨Nat.le_of_ble_eq_true rfl, Nat.le_of_ble_eq_true rfl⟩ (fun u_13 H locs hP hD hS q_13 => ?_)
  refine lv_iload hx hb dX6_quote_16 (lv_at hl 4 rfl) ?_
  refine lv_iconst (v := nI 1) hx hb dX6_quote_18 (by decide) ?_
  refine lv_sipush (v := nI 10000) hx hb dX6_quote_19 (by decide) ?_
  refine gc_S_v (As := [.int (nI (gr)), .int (nI (1)), .int (nI (10000))]) (rest := []) (c_X6_requireRange l (rq_rg hgr kgr (by decide))) ⟨hx, hb, hml, hown, hts⟩ (va_cwS 3 hts gX6_quote_X6_requireRange rfl rfl rfl (by decide +kernel) ⟨Nat.le_of_ble_eq_true rfl, Nat.le_of_ble_eq_true rfl⟩) hE hP hD hS hA rfl rfl hl.1 (Nat.le_of_ble_eq_true rfl) dX6_quote_22 ⟨Nat.le_of_ble_eq_true rfl, Nat.le_of_ble_eq_true rfl⟩ (fun u_22 H locs hP hD hS q_22 => ?_)
  refine lv_aload_n hx hb dX6_quote_25 rfl (lv_at hl 0 rfl) ?_
  exact gcx_V_v (As := []) (rest := []) (x_X6_requireCollecting l f0_off hfl hbad (by omega)) ⟨hx, hb, hml, hown, hts⟩ (cwV 0 hts gX6_quote_X6_requireCollecting rfl rfl rfl (by decide +kernel) ⟨Nat.le_of_ble_eq_true rfl, Nat.le_of_ble_eq_true rfl⟩) hE hX hex hlocks hP hD hS hA _ f0_off rfl rfl rfl rfl hl.1 (Nat.le_of_ble_eq_true rfl) dX6_quote_26 ⟨Nat.le_of_ble_eq_true rfl, Nat.le_of_ble_eq_true rfl⟩ (Nat.le_of_ble_eq_true rfl) (Nat.le_of_ble_eq_true rfl)

theorem in_x5_X6_quote_RX2 : ∀ w ∈ wsX20, w ∈ wsX6_quote := by decide +kernel
theorem in_x5_X6_quote_RX6 : ∀ w ∈ wsX60, w ∈ wsX6_quote := by decide +kernel
theorem inx_x5_X6_quote_72 : ∀ w ∈ (vx_atS RX6 72 "java/lang/IllegalStateException" ["java/lang/RuntimeException", "java/lang/Exception"]).filter goodWord, w ∈ wsX6_quote := by decide +kernel
set_option maxHeartbeats 4000000 in
set_option maxRecDepth 100000 in
theorem x5_X6_quote (l : Launch) {D : va_G} {y : Nat → Nat} {ws : va_W} {x_off_1 : Value} {x_off_2 : Value} {x_off_3 : Value} {x_off_4 : Value} {x_off_5 : Value} {x_off_6 : Value} {x_led_3 : Value} {x_itl_0 : Value} {p_off p_led p_itl p_cents p_grams p_cc p_ita a_off a_led a_itl a_cents a_grams a_cc a_ita a_fx a_lc a_lg : Nat} {cents : Nat → Nat} {grams : Nat → Nat} {cc : Nat → Nat} {q : Nat → Option Nat} {i o ce gr : Nat} {nw qn fq : Nat} {n cap : Nat} {ad G M Sn : Nat → Nat} (f0_off : ws[p_off]? = some (a_off, .inr (7, [.ref a_led, x_off_1, x_off_2, x_off_3, x_off_4, x_off_5, x_off_6, .int (nI (nw))]))) (f0_led : ws[p_led]? = some (a_led, .inr (3, [.ref a_itl, .ref a_cents, .ref a_grams, x_led_3, .ref a_cc, .ref a_fx, .ref a_lc, .ref a_lg, .int (nI (qn)), .int (nI (fq))]))) (f0_itl : ws[p_itl]? = some (a_itl, .inr (0, [x_itl_0, .ref a_ita, .int (nI (n))]))) (f0_cents : ws[p_cents]? = some (a_cents, eN y 1152 cents)) (f0_grams : ws[p_grams]? = some (a_grams, eN y 1152 grams)) (f0_cc : ws[p_cc]? = some (a_cc, eN y 1152 cc)) (f0_ita : ws[p_ita]? = some (a_ita, eQ y cap q)) (b_cents : ∀ k, cents k ≤ 100000) (b_grams : ∀ k, grams k ≤ 10000) (b_cc : ∀ k, cc k ≤ 100000) (hfl : l.stackTraces = false) (hw : nw < 2 ^ 31) (hSn : ∀ i, Sn i < 4096) (hdis : p_cents ≠ p_grams ∧ p_cents ≠ p_cc ∧ p_grams ≠ p_cc) (hn : n ≤ 12) (hIt : gIt ws n cap q ad G M Sn) (hi : i < n) (ho : o < 4) (hce : 1 ≤ ce) (kce : ce ≤ 100000) (hgr : 1 ≤ gr) (kgr : gr ≤ 10000) (hnw : nw < 24) (hbad : (Sn i).testBit (nw % 12) = false) : gMxi l yX6_quote wsX6_quote ({ frames := 6, cells := 1, slots := 6, locals := 100 }) D y [.ref a_off, .int (nI (i)), .int (nI (o)), .int (nI (ce)), .int (nI (gr))] ws "java/lang/IllegalStateException" := by
  refine g_metx_i (cc := cX6_quote) (maxL := 6) (by decide) rfl (Nat.le_of_ble_eq_true rfl) ?_
  intro p e s m below meth c A hx hb hml hr hts hown hnm hlocks hE hP hD hS hA hex hX ls hl
  have hown : s.vm.findClass RX6 = some m.cls := hown
  have hl : lv_has ls 6 [(0, .ref a_off), (1, .int (nI (i))), (2, .int (nI (o))), (3, .int (nI (ce))), (4, .int (nI (gr)))] := hl
  have in_RX2 := in_x5_X6_quote_RX2
  have in_RX6 := in_x5_X6_quote_RX6
  have hItc := hIt
  refine lv_aload_n hx hb dX6_quote_0 rfl (lv_at hl 0 rfl) ?_
  refine lv_iload_n hx hb dX6_quote_1 rfl (lv_at hl 1 rfl) ?_
  refine gc_V_v (As := [.int (nI (i))]) (rest := []) (c_X6_requireItem l f0_off f0_led f0_itl (rq_lt hi (by omega))) ⟨hx, hb, hml, hown, hts⟩ (cwV 1 hts gX6_quote_X6_requireItem rfl rfl rfl (by decide +kernel) ⟨Nat.le_of_ble_eq_true rfl, Nat.le_of_ble_eq_true rfl⟩) hE hP hD hS hA _ f0_off rfl rfl rfl rfl hl.1 (Nat.le_of_ble_eq_true rfl) dX6_quote_2 ⟨Nat.le_of_ble_eq_true rfl, Nat.le_of_ble_eq_true rfl⟩ (fun u_2 H locs hP hD hS q_2 => ?_)
  refine lv_iload_n hx hb dX6_quote_5 rfl (lv_at hl 2 rfl) ?_
  refine gc_S_v (As := [.int (nI (o))]) (rest := []) (c_X6_requireOutlet l (rq_lt ho (by omega))) ⟨hx, hb, hml, hown, hts⟩ (va_cwS 1 hts gX6_quote_X6_requireOutlet rfl rfl rfl (by decide +kernel) ⟨Nat.le_of_ble_eq_true rfl, Nat.le_of_ble_eq_true rfl⟩) hE hP hD hS hA rfl rfl hl.1 (Nat.le_of_ble_eq_true rfl) dX6_quote_6 ⟨Nat.le_of_ble_eq_true rfl, Nat.le_of_ble_eq_true rfl⟩ (fun u_6 H locs hP hD hS q_6 => ?_)
  refine lv_iload_n hx hb dX6_quote_9 rfl (lv_at hl 3 rfl) ?_
  refine lv_iconst (v := nI 1) hx hb dX6_quote_10 (by decide) ?_
  refine lv_ldc (v := 100000) hx hb hown (hts (.constant RX6 89 (100000)) (by decide +kernel)) dX6_quote_11 ?_
  rw [show (100000 : Int32) = nI 100000 from by decide]
  refine gc_S_v (As := [.int (nI (ce)), .int (nI (1)), .int (nI (100000))]) (rest := []) (c_X6_requireRange l (rq_rg hce kce (by decide))) ⟨hx, hb, hml, hown, hts⟩ (va_cwS 3 hts gX6_quote_X6_requireRange rfl rfl rfl (by decide +kernel) ⟨Nat.le_of_ble_eq_true rfl, Nat.le_of_ble_eq_true rfl⟩) hE hP hD hS hA rfl rfl hl.1 (Nat.le_of_ble_eq_true rfl) dX6_quote_13 ⟨Nat.le_of_ble_eq_true rfl, Nat.le_of_ble_eq_true rfl⟩ (fun u_13 H locs hP hD hS q_13 => ?_)
  refine lv_iload hx hb dX6_quote_16 (lv_at hl 4 rfl) ?_
  refine lv_iconst (v := nI 1) hx hb dX6_quote_18 (by decide) ?_
  refine lv_sipush (v := nI 10000) hx hb dX6_quote_19 (by decide) ?_
  refine gc_S_v (As := [.int (nI (gr)), .int (nI (1)), .int (nI (10000))]) (rest := []) (c_X6_requireRange l (rq_rg hgr kgr (by decide))) ⟨hx, hb, hml, hown, hts⟩ (va_cwS 3 hts gX6_quote_X6_requireRange rfl rfl rfl (by decide +kernel) ⟨Nat.le_of_ble_eq_true rfl, Nat.le_of_ble_eq_true rfl⟩) hE hP hD hS hA rfl rfl hl.1 (Nat.le_of_ble_eq_true rfl) dX6_quote_22 ⟨Nat.le_of_ble_eq_true rfl, Nat.le_of_ble_eq_true rfl⟩ (fun u_22 H locs hP hD hS q_22 => ?_)
  refine lv_aload_n hx hb dX6_quote_25 rfl (lv_at hl 0 rfl) ?_
  refine gc_V_v (As := []) (rest := []) (c_X6_requireCollecting l f0_off (by omega)) ⟨hx, hb, hml, hown, hts⟩ (cwV 0 hts gX6_quote_X6_requireCollecting rfl rfl rfl (by decide +kernel) ⟨Nat.le_of_ble_eq_true rfl, Nat.le_of_ble_eq_true rfl⟩) hE hP hD hS hA _ f0_off rfl rfl rfl rfl hl.1 (Nat.le_of_ble_eq_true rfl) dX6_quote_26 ⟨Nat.le_of_ble_eq_true rfl, Nat.le_of_ble_eq_true rfl⟩ (fun u_26 H locs hP hD hS q_26 => ?_)
  refine lv_aload_n hx hb dX6_quote_29 rfl (lv_at hl 0 rfl) ?_
  refine va_get (D := D) (ci := 7) (v := .ref a_led) (C := RX6) (T := TX6) (N := 8) hx hb hts in_RX6 hown hE.1 (gv1 hP f0_off) 0 rfl rfl 0 (by decide) (hts (.fieldLink RX6 12 "BasketryOffice" "ledger" "LBasketryOffice$Ledger;") (by decide +kernel)) (fun _ h9 => h9) rfl dX6_quote_30 ?_
  refine va_getN (D := D) (ci := 3) (v := .ref a_itl) (C := RX2) (T := TX2) (N := 10) hx hb hts in_RX2 hown hE.1 (gv1 hP f0_led) 0 rfl rfl 0 (by decide) (va_Nw.use rfl (hE.2 (.fieldLinkNest RX6 61 "BasketryOffice$Ledger" "items" "Ljava/util/ArrayList;" "BasketryOffice") (by decide +kernel))) (fun _ h9 => h9) rfl dX6_quote_33 ?_
  refine lv_iload_n hx hb dX6_quote_36 rfl (lv_at hl 1 rfl) ?_
  refine gc_V_r (As := [.int (nI (i))]) (rest := []) (c_Jx4a65c_get_915e3 l f0_itl f0_ita hi hIt.1 hIt.2.1 (hIt.2.2.1 _ hi)) ⟨hx, hb, hml, hown, hts⟩ (cwV 1 hts gX6_quote_Jx4a65c_get_915e3 rfl rfl rfl (by decide +kernel) ⟨Nat.le_of_ble_eq_true rfl, Nat.le_of_ble_eq_true rfl⟩) hE hP hD hS hA _ f0_itl rfl rfl rfl rfl hl.1 (Nat.le_of_ble_eq_true rfl) dX6_quote_37 ⟨Nat.le_of_ble_eq_true rfl, Nat.le_of_ble_eq_true rfl⟩ (fun r_37 u_37 H locs hP hD hS q_37 => ?_)
  subst q_37
  obtain ⟨p_it, f0_it⟩ := hIt.2.2.2 (i) hi
  refine va_castS hx hb hown (hts (.classLink RX6 75 "BasketryOffice$Item") (by decide +kernel)) (hE.1.1 2 _ rfl).2 (gv_recv hE.1 hP rfl f0_it) dX6_quote_40 ?_
  refine lv_aload_n hx hb dX6_quote_43 rfl (lv_at hl 0 rfl) ?_
  refine va_get (D := D) (ci := 7) (v := .int (nI (nw))) (C := RX6) (T := TX6) (N := 8) hx hb hts in_RX6 hown hE.1 (gv1 hP f0_off) 0 rfl rfl 7 (by decide) (hts (.fieldLink RX6 49 "BasketryOffice" "now" "I") (by decide +kernel)) (fun _ h9 => h9) rfl dX6_quote_44 ?_
  refine gc_V_i (As := [.int (nI (nw))]) (rest := []) (c_X1_isInSeason l f0_it (by omega) (hSn i)) ⟨hx, hb, hml, hown, hts⟩ (cwV 1 hts gX6_quote_X1_isInSeason rfl rfl rfl (by decide +kernel) ⟨Nat.le_of_ble_eq_true rfl, Nat.le_of_ble_eq_true rfl⟩) hE hP hD hS hA _ f0_it rfl rfl rfl rfl hl.1 (Nat.le_of_ble_eq_true rfl) dX6_quote_47 ⟨Nat.le_of_ble_eq_true rfl, Nat.le_of_ble_eq_true rfl⟩ (fun r_47 u_47 H locs hP hD hS q_47 => ?_)
  subst q_47
  refine g_bif_ne (tgt := 63) hx hb dX6_quote_50 (by decide) (fun c_50 => absurd c_50 (by rw [hbad]; decide)) (fun c_50 => ?_)
  exact g_throwS hx hb hfl (cls := "java/lang/IllegalStateException") (text := "the item is not in season") (names := ["java/lang/RuntimeException", "java/lang/Exception"]) (ik := 68) (is := 101) (ic := 72) hown (by decide +kernel) htex_72 (hts (.classLink RX6 68 "java/lang/IllegalStateException") (by decide +kernel)) (hts (.initialized "java/lang/IllegalStateException") (by decide +kernel)) (by decide +kernel) (fun w hw => hts w (inx_x5_X6_quote_72 w hw)) hat2_72 (vx_c (va_Nw.use rfl (hE.2 _ hnest_72)) (vx_c (va_Nw.use rfl (hE.2 _ hnest_r)) (vx_c (va_Nw.use rfl (hE.2 _ hnest_e)) (vx_c (va_Nw.use rfl (hE.2 _ hnest_t)) vx_n)))) hgood_72 hX hS hP hD (hl.1.trans hml.symm) hex hlocks dX6_quote_53 dX6_quote_56 dX6_quote_57 dX6_quote_59 dX6_quote_62 (Nat.le_of_ble_eq_true rfl) (Nat.le_of_ble_eq_true rfl) (Nat.le_of_ble_eq_true rfl) (Nat.le_of_ble_eq_true rfl) (Nat.le_of_ble_eq_true rfl) (Nat.le_of_ble_eq_true rfl)

theorem in_x6_X6_quote_RX2 : ∀ w ∈ wsX20, w ∈ wsX6_quote := by decide +kernel
theorem in_x6_X6_quote_RX6 : ∀ w ∈ wsX60, w ∈ wsX6_quote := by decide +kernel
theorem inx_x6_X6_quote_72 : ∀ w ∈ (vx_atS RX6 72 "java/lang/IllegalStateException" ["java/lang/RuntimeException", "java/lang/Exception"]).filter goodWord, w ∈ wsX6_quote := by decide +kernel
set_option maxHeartbeats 4000000 in
set_option maxRecDepth 100000 in
theorem x6_X6_quote (l : Launch) {D : va_G} {y : Nat → Nat} {ws : va_W} {x_off_1 : Value} {x_off_2 : Value} {x_off_3 : Value} {x_off_4 : Value} {x_off_5 : Value} {x_off_6 : Value} {x_led_3 : Value} {x_itl_0 : Value} {p_off p_led p_itl p_cents p_grams p_cc p_ita a_off a_led a_itl a_cents a_grams a_cc a_ita a_fx a_lc a_lg : Nat} {cents : Nat → Nat} {grams : Nat → Nat} {cc : Nat → Nat} {q : Nat → Option Nat} {i o ce gr : Nat} {nw qn fq : Nat} {n cap : Nat} {ad G M Sn : Nat → Nat} (f0_off : ws[p_off]? = some (a_off, .inr (7, [.ref a_led, x_off_1, x_off_2, x_off_3, x_off_4, x_off_5, x_off_6, .int (nI (nw))]))) (f0_led : ws[p_led]? = some (a_led, .inr (3, [.ref a_itl, .ref a_cents, .ref a_grams, x_led_3, .ref a_cc, .ref a_fx, .ref a_lc, .ref a_lg, .int (nI (qn)), .int (nI (fq))]))) (f0_itl : ws[p_itl]? = some (a_itl, .inr (0, [x_itl_0, .ref a_ita, .int (nI (n))]))) (f0_cents : ws[p_cents]? = some (a_cents, eN y 1152 cents)) (f0_grams : ws[p_grams]? = some (a_grams, eN y 1152 grams)) (f0_cc : ws[p_cc]? = some (a_cc, eN y 1152 cc)) (f0_ita : ws[p_ita]? = some (a_ita, eQ y cap q)) (b_cents : ∀ k, cents k ≤ 100000) (b_grams : ∀ k, grams k ≤ 10000) (b_cc : ∀ k, cc k ≤ 100000) (hfl : l.stackTraces = false) (hw : nw < 2 ^ 31) (hSn : ∀ i, Sn i < 4096) (hdis : p_cents ≠ p_grams ∧ p_cents ≠ p_cc ∧ p_grams ≠ p_cc) (hn : n ≤ 12) (hIt : gIt ws n cap q ad G M Sn) (hi : i < n) (ho : o < 4) (hce : 1 ≤ ce) (kce : ce ≤ 100000) (hgr : 1 ≤ gr) (kgr : gr ≤ 10000) (hnw : nw < 24) (hsn : (Sn i).testBit (nw % 12) = true) (hbad : 0 < cents (nw * 48 + i * 4 + o)) : gMxi l yX6_quote wsX6_quote ({ frames := 6, cells := 1, slots := 6, locals := 100 }) D y [.ref a_off, .int (nI (i)), .int (nI (o)), .int (nI (ce)), .int (nI (gr))] ws "java/lang/IllegalStateException" := by
  refine g_metx_i (cc := cX6_quote) (maxL := 6) (by decide) rfl (Nat.le_of_ble_eq_true rfl) ?_
  intro p e s m below meth c A hx hb hml hr hts hown hnm hlocks hE hP hD hS hA hex hX ls hl
  have hown : s.vm.findClass RX6 = some m.cls := hown
  have hl : lv_has ls 6 [(0, .ref a_off), (1, .int (nI (i))), (2, .int (nI (o))), (3, .int (nI (ce))), (4, .int (nI (gr)))] := hl
  have in_RX2 := in_x6_X6_quote_RX2
  have in_RX6 := in_x6_X6_quote_RX6
  have hItc := hIt
  refine lv_aload_n hx hb dX6_quote_0 rfl (lv_at hl 0 rfl) ?_
  refine lv_iload_n hx hb dX6_quote_1 rfl (lv_at hl 1 rfl) ?_
  refine gc_V_v (As := [.int (nI (i))]) (rest := []) (c_X6_requireItem l f0_off f0_led f0_itl (rq_lt hi (by omega))) ⟨hx, hb, hml, hown, hts⟩ (cwV 1 hts gX6_quote_X6_requireItem rfl rfl rfl (by decide +kernel) ⟨Nat.le_of_ble_eq_true rfl, Nat.le_of_ble_eq_true rfl⟩) hE hP hD hS hA _ f0_off rfl rfl rfl rfl hl.1 (Nat.le_of_ble_eq_true rfl) dX6_quote_2 ⟨Nat.le_of_ble_eq_true rfl, Nat.le_of_ble_eq_true rfl⟩ (fun u_2 H locs hP hD hS q_2 => ?_)
  refine lv_iload_n hx hb dX6_quote_5 rfl (lv_at hl 2 rfl) ?_
  refine gc_S_v (As := [.int (nI (o))]) (rest := []) (c_X6_requireOutlet l (rq_lt ho (by omega))) ⟨hx, hb, hml, hown, hts⟩ (va_cwS 1 hts gX6_quote_X6_requireOutlet rfl rfl rfl (by decide +kernel) ⟨Nat.le_of_ble_eq_true rfl, Nat.le_of_ble_eq_true rfl⟩) hE hP hD hS hA rfl rfl hl.1 (Nat.le_of_ble_eq_true rfl) dX6_quote_6 ⟨Nat.le_of_ble_eq_true rfl, Nat.le_of_ble_eq_true rfl⟩ (fun u_6 H locs hP hD hS q_6 => ?_)
  refine lv_iload_n hx hb dX6_quote_9 rfl (lv_at hl 3 rfl) ?_
  refine lv_iconst (v := nI 1) hx hb dX6_quote_10 (by decide) ?_
  refine lv_ldc (v := 100000) hx hb hown (hts (.constant RX6 89 (100000)) (by decide +kernel)) dX6_quote_11 ?_
  rw [show (100000 : Int32) = nI 100000 from by decide]
  refine gc_S_v (As := [.int (nI (ce)), .int (nI (1)), .int (nI (100000))]) (rest := []) (c_X6_requireRange l (rq_rg hce kce (by decide))) ⟨hx, hb, hml, hown, hts⟩ (va_cwS 3 hts gX6_quote_X6_requireRange rfl rfl rfl (by decide +kernel) ⟨Nat.le_of_ble_eq_true rfl, Nat.le_of_ble_eq_true rfl⟩) hE hP hD hS hA rfl rfl hl.1 (Nat.le_of_ble_eq_true rfl) dX6_quote_13 ⟨Nat.le_of_ble_eq_true rfl, Nat.le_of_ble_eq_true rfl⟩ (fun u_13 H locs hP hD hS q_13 => ?_)
  refine lv_iload hx hb dX6_quote_16 (lv_at hl 4 rfl) ?_
  refine lv_iconst (v := nI 1) hx hb dX6_quote_18 (by decide) ?_
  refine lv_sipush (v := nI 10000) hx hb dX6_quote_19 (by decide) ?_
  refine gc_S_v (As := [.int (nI (gr)), .int (nI (1)), .int (nI (10000))]) (rest := []) (c_X6_requireRange l (rq_rg hgr kgr (by decide))) ⟨hx, hb, hml, hown, hts⟩ (va_cwS 3 hts gX6_quote_X6_requireRange rfl rfl rfl (by decide +kernel) ⟨Nat.le_of_ble_eq_true rfl, Nat.le_of_ble_eq_true rfl⟩) hE hP hD hS hA rfl rfl hl.1 (Nat.le_of_ble_eq_true rfl) dX6_quote_22 ⟨Nat.le_of_ble_eq_true rfl, Nat.le_of_ble_eq_true rfl⟩ (fun u_22 H locs hP hD hS q_22 => ?_)
  refine lv_aload_n hx hb dX6_quote_25 rfl (lv_at hl 0 rfl) ?_
  refine gc_V_v (As := []) (rest := []) (c_X6_requireCollecting l f0_off (by omega)) ⟨hx, hb, hml, hown, hts⟩ (cwV 0 hts gX6_quote_X6_requireCollecting rfl rfl rfl (by decide +kernel) ⟨Nat.le_of_ble_eq_true rfl, Nat.le_of_ble_eq_true rfl⟩) hE hP hD hS hA _ f0_off rfl rfl rfl rfl hl.1 (Nat.le_of_ble_eq_true rfl) dX6_quote_26 ⟨Nat.le_of_ble_eq_true rfl, Nat.le_of_ble_eq_true rfl⟩ (fun u_26 H locs hP hD hS q_26 => ?_)
  refine lv_aload_n hx hb dX6_quote_29 rfl (lv_at hl 0 rfl) ?_
  refine va_get (D := D) (ci := 7) (v := .ref a_led) (C := RX6) (T := TX6) (N := 8) hx hb hts in_RX6 hown hE.1 (gv1 hP f0_off) 0 rfl rfl 0 (by decide) (hts (.fieldLink RX6 12 "BasketryOffice" "ledger" "LBasketryOffice$Ledger;") (by decide +kernel)) (fun _ h9 => h9) rfl dX6_quote_30 ?_
  refine va_getN (D := D) (ci := 3) (v := .ref a_itl) (C := RX2) (T := TX2) (N := 10) hx hb hts in_RX2 hown hE.1 (gv1 hP f0_led) 0 rfl rfl 0 (by decide) (va_Nw.use rfl (hE.2 (.fieldLinkNest RX6 61 "BasketryOffice$Ledger" "items" "Ljava/util/ArrayList;" "BasketryOffice") (by decide +kernel))) (fun _ h9 => h9) rfl dX6_quote_33 ?_
  refine lv_iload_n hx hb dX6_quote_36 rfl (lv_at hl 1 rfl) ?_
  refine gc_V_r (As := [.int (nI (i))]) (rest := []) (c_Jx4a65c_get_915e3 l f0_itl f0_ita hi hIt.1 hIt.2.1 (hIt.2.2.1 _ hi)) ⟨hx, hb, hml, hown, hts⟩ (cwV 1 hts gX6_quote_Jx4a65c_get_915e3 rfl rfl rfl (by decide +kernel) ⟨Nat.le_of_ble_eq_true rfl, Nat.le_of_ble_eq_true rfl⟩) hE hP hD hS hA _ f0_itl rfl rfl rfl rfl hl.1 (Nat.le_of_ble_eq_true rfl) dX6_quote_37 ⟨Nat.le_of_ble_eq_true rfl, Nat.le_of_ble_eq_true rfl⟩ (fun r_37 u_37 H locs hP hD hS q_37 => ?_)
  subst q_37
  obtain ⟨p_it, f0_it⟩ := hIt.2.2.2 (i) hi
  refine va_castS hx hb hown (hts (.classLink RX6 75 "BasketryOffice$Item") (by decide +kernel)) (hE.1.1 2 _ rfl).2 (gv_recv hE.1 hP rfl f0_it) dX6_quote_40 ?_
  refine lv_aload_n hx hb dX6_quote_43 rfl (lv_at hl 0 rfl) ?_
  refine va_get (D := D) (ci := 7) (v := .int (nI (nw))) (C := RX6) (T := TX6) (N := 8) hx hb hts in_RX6 hown hE.1 (gv1 hP f0_off) 0 rfl rfl 7 (by decide) (hts (.fieldLink RX6 49 "BasketryOffice" "now" "I") (by decide +kernel)) (fun _ h9 => h9) rfl dX6_quote_44 ?_
  refine gc_V_i (As := [.int (nI (nw))]) (rest := []) (c_X1_isInSeason l f0_it (by omega) (hSn i)) ⟨hx, hb, hml, hown, hts⟩ (cwV 1 hts gX6_quote_X1_isInSeason rfl rfl rfl (by decide +kernel) ⟨Nat.le_of_ble_eq_true rfl, Nat.le_of_ble_eq_true rfl⟩) hE hP hD hS hA _ f0_it rfl rfl rfl rfl hl.1 (Nat.le_of_ble_eq_true rfl) dX6_quote_47 ⟨Nat.le_of_ble_eq_true rfl, Nat.le_of_ble_eq_true rfl⟩ (fun r_47 u_47 H locs hP hD hS q_47 => ?_)
  subst q_47
  refine g_bif_ne (tgt := 63) hx hb dX6_quote_50 (by decide) (fun c_50 => ?_) (fun c_50 => absurd c_50 (by rw [hsn]; decide))
  refine lv_iload_n hx hb dX6_quote_63 rfl (lv_at hl 1 rfl) ?_
  refine lv_iload_n hx hb dX6_quote_64 rfl (lv_at hl 2 rfl) ?_
  refine lv_aload_n hx hb dX6_quote_65 rfl (lv_at hl 0 rfl) ?_
  refine va_get (D := D) (ci := 7) (v := .int (nI (nw))) (C := RX6) (T := TX6) (N := 8) hx hb hts in_RX6 hown hE.1 (gv1 hP f0_off) 0 rfl rfl 7 (by decide) (hts (.fieldLink RX6 49 "BasketryOffice" "now" "I") (by decide +kernel)) (fun _ h9 => h9) rfl dX6_quote_66 ?_
  refine gc_S_i (As := [.int (nI (i)), .int (nI (o)), .int (nI (nw))]) (rest := []) (c_X6_slotOf l) ⟨hx, hb, hml, hown, hts⟩ (va_cwS 3 hts gX6_quote_X6_slotOf rfl rfl rfl (by decide +kernel) ⟨Nat.le_of_ble_eq_true rfl, Nat.le_of_ble_eq_true rfl⟩) hE hP hD hS hA rfl rfl hl.1 (Nat.le_of_ble_eq_true rfl) dX6_quote_69 ⟨Nat.le_of_ble_eq_true rfl, Nat.le_of_ble_eq_true rfl⟩ (fun r_69 u_69 H locs hP hD hS q_69 => ?_)
  subst q_69
  refine lv_istore (lv' := [(5, .int (nI (nw * 48 + i * 4 + o))), (0, .ref a_off), (1, .int (nI (i))), (2, .int (nI (o))), (3, .int (nI (ce))), (4, .int (nI (gr)))]) hx hb dX6_quote_72 hl (by decide) rfl (fun ls hl => ?_)
  refine lv_aload_n hx hb dX6_quote_74 rfl (lv_at hl 1 rfl) ?_
  refine va_get (D := D) (ci := 7) (v := .ref a_led) (C := RX6) (T := TX6) (N := 8) hx hb hts in_RX6 hown hE.1 (gv1 hP f0_off) 0 rfl rfl 0 (by decide) (hts (.fieldLink RX6 12 "BasketryOffice" "ledger" "LBasketryOffice$Ledger;") (by decide +kernel)) (fun _ h9 => h9) rfl dX6_quote_75 ?_
  refine lv_iload hx hb dX6_quote_78 (lv_at hl 0 rfl) ?_
  refine gc_V_i (As := [.int (nI (nw * 48 + i * 4 + o))]) (rest := []) (c_X2_hasQuote l f0_led f0_cents b_cents (by omega)) ⟨hx, hb, hml, hown, hts⟩ (cwV 1 hts gX6_quote_X2_hasQuote rfl rfl rfl (by decide +kernel) ⟨Nat.le_of_ble_eq_true rfl, Nat.le_of_ble_eq_true rfl⟩) hE hP hD hS hA _ f0_led rfl rfl rfl rfl hl.1 (Nat.le_of_ble_eq_true rfl) dX6_quote_80 ⟨Nat.le_of_ble_eq_true rfl, Nat.le_of_ble_eq_true rfl⟩ (fun r_80 u_80 H locs hP hD hS q_80 => ?_)
  subst q_80
  refine g_bif_eq (tgt := 96) hx hb dX6_quote_83 (by decide) (fun c_83 => absurd c_83 (by rw [decide_eq_true hbad]; decide)) (fun c_83 => ?_)
  exact g_throwS hx hb hfl (cls := "java/lang/IllegalStateException") (text := "there is a quote") (names := ["java/lang/RuntimeException", "java/lang/Exception"]) (ik := 68) (is := 110) (ic := 72) hown (by decide +kernel) htex_72 (hts (.classLink RX6 68 "java/lang/IllegalStateException") (by decide +kernel)) (hts (.initialized "java/lang/IllegalStateException") (by decide +kernel)) (by decide +kernel) (fun w hw => hts w (inx_x6_X6_quote_72 w hw)) hat2_72 (vx_c (va_Nw.use rfl (hE.2 _ hnest_72)) (vx_c (va_Nw.use rfl (hE.2 _ hnest_r)) (vx_c (va_Nw.use rfl (hE.2 _ hnest_e)) (vx_c (va_Nw.use rfl (hE.2 _ hnest_t)) vx_n)))) hgood_72 hX hS hP hD (hl.1.trans hml.symm) hex hlocks dX6_quote_86 dX6_quote_89 dX6_quote_90 dX6_quote_92 dX6_quote_95 (Nat.le_of_ble_eq_true rfl) (Nat.le_of_ble_eq_true rfl) (Nat.le_of_ble_eq_true rfl) (Nat.le_of_ble_eq_true rfl) (Nat.le_of_ble_eq_true rfl) (Nat.le_of_ble_eq_true rfl)

theorem in_c_X6_quote_RX2 : ∀ w ∈ wsX20, w ∈ wsX6_quote := by decide +kernel
theorem in_c_X6_quote_RX6 : ∀ w ∈ wsX60, w ∈ wsX6_quote := by decide +kernel
set_option maxHeartbeats 4000000 in
set_option maxRecDepth 100000 in
theorem c_X6_quote (l : Launch) {D : va_G} {y : Nat → Nat} {ws : va_W} {x_off_1 : Value} {x_off_2 : Value} {x_off_3 : Value} {x_off_4 : Value} {x_off_5 : Value} {x_off_6 : Value} {x_led_3 : Value} {x_itl_0 : Value} {p_off p_led p_itl p_cents p_grams p_cc p_ita a_off a_led a_itl a_cents a_grams a_cc a_ita a_fx a_lc a_lg : Nat} {cents : Nat → Nat} {grams : Nat → Nat} {cc : Nat → Nat} {q : Nat → Option Nat} {i o ce gr : Nat} {nw qn fq : Nat} {n cap : Nat} {ad G M Sn : Nat → Nat} (f0_off : ws[p_off]? = some (a_off, .inr (7, [.ref a_led, x_off_1, x_off_2, x_off_3, x_off_4, x_off_5, x_off_6, .int (nI (nw))]))) (f0_led : ws[p_led]? = some (a_led, .inr (3, [.ref a_itl, .ref a_cents, .ref a_grams, x_led_3, .ref a_cc, .ref a_fx, .ref a_lc, .ref a_lg, .int (nI (qn)), .int (nI (fq))]))) (f0_itl : ws[p_itl]? = some (a_itl, .inr (0, [x_itl_0, .ref a_ita, .int (nI (n))]))) (f0_cents : ws[p_cents]? = some (a_cents, eN y 1152 cents)) (f0_grams : ws[p_grams]? = some (a_grams, eN y 1152 grams)) (f0_cc : ws[p_cc]? = some (a_cc, eN y 1152 cc)) (f0_ita : ws[p_ita]? = some (a_ita, eQ y cap q)) (b_cents : ∀ k, cents k ≤ 100000) (b_grams : ∀ k, grams k ≤ 10000) (b_cc : ∀ k, cc k ≤ 100000) (hw : nw < 2 ^ 31) (hSn : ∀ i, Sn i < 4096) (hdis : p_cents ≠ p_grams ∧ p_cents ≠ p_cc ∧ p_grams ≠ p_cc) (hn : n ≤ 12) (hIt : gIt ws n cap q ad G M Sn) (hi : i < n) (ho : o < 4) (hce : 1 ≤ ce) (kce : ce ≤ 100000) (hgr : 1 ≤ gr) (kgr : gr ≤ 10000) (hnw : nw < 24) (hsn : (Sn i).testBit (nw % 12) = true) (hnq : cents (nw * 48 + i * 4 + o) = 0)  : gMi l yX6_quote wsX6_quote ({ frames := 3, cells := 0, slots := 0, locals := 64 }) D y [.ref a_off, .int (nI (i)), .int (nI (o)), .int (nI (ce)), .int (nI (gr))] ws (fun r (_ : Unit) => r = nI (qn + 1)) (fun (_ : Unit) => ((((ws.set p_cents (a_cents, eN y 1152 (vf_upd cents (nw * 48 + i * 4 + o) (ce)))).set p_cc (a_cc, eN y 1152 (vf_upd cc (nw * 48 + i * 4 + o) (ce)))).set p_grams (a_grams, eN y 1152 (vf_upd grams (nw * 48 + i * 4 + o) (gr)))).set p_led (a_led, .inr (3, [.ref a_itl, .ref a_cents, .ref a_grams, x_led_3, .ref a_cc, .ref a_fx, .ref a_lc, .ref a_lg, .int (nI (qn + 1)), .int (nI (fq))])))) := by
  refine g_met_i (cc := cX6_quote) (maxL := 6) (by decide) rfl (Nat.le_of_ble_eq_true rfl) ?_
  intro p e s m below meth c A hx hb hml hr hts hown hnm hlocks hE hP hD hS hA ls hl
  have hown : s.vm.findClass RX6 = some m.cls := hown
  have hl : lv_has ls 6 [(0, .ref a_off), (1, .int (nI (i))), (2, .int (nI (o))), (3, .int (nI (ce))), (4, .int (nI (gr)))] := hl
  have in_RX2 := in_c_X6_quote_RX2
  have in_RX6 := in_c_X6_quote_RX6
  have hItc := hIt
  refine lv_aload_n hx hb dX6_quote_0 rfl (lv_at hl 0 rfl) ?_
  refine lv_iload_n hx hb dX6_quote_1 rfl (lv_at hl 1 rfl) ?_
  refine gc_V_v (As := [.int (nI (i))]) (rest := []) (c_X6_requireItem l f0_off f0_led f0_itl (rq_lt hi (by omega))) ⟨hx, hb, hml, hown, hts⟩ (cwV 1 hts gX6_quote_X6_requireItem rfl rfl rfl (by decide +kernel) ⟨Nat.le_of_ble_eq_true rfl, Nat.le_of_ble_eq_true rfl⟩) hE hP hD hS hA _ f0_off rfl rfl rfl rfl hl.1 (Nat.le_of_ble_eq_true rfl) dX6_quote_2 ⟨Nat.le_of_ble_eq_true rfl, Nat.le_of_ble_eq_true rfl⟩ (fun u_2 H locs hP hD hS q_2 => ?_)
  refine lv_iload_n hx hb dX6_quote_5 rfl (lv_at hl 2 rfl) ?_
  refine gc_S_v (As := [.int (nI (o))]) (rest := []) (c_X6_requireOutlet l (rq_lt ho (by omega))) ⟨hx, hb, hml, hown, hts⟩ (va_cwS 1 hts gX6_quote_X6_requireOutlet rfl rfl rfl (by decide +kernel) ⟨Nat.le_of_ble_eq_true rfl, Nat.le_of_ble_eq_true rfl⟩) hE hP hD hS hA rfl rfl hl.1 (Nat.le_of_ble_eq_true rfl) dX6_quote_6 ⟨Nat.le_of_ble_eq_true rfl, Nat.le_of_ble_eq_true rfl⟩ (fun u_6 H locs hP hD hS q_6 => ?_)
  refine lv_iload_n hx hb dX6_quote_9 rfl (lv_at hl 3 rfl) ?_
  refine lv_iconst (v := nI 1) hx hb dX6_quote_10 (by decide) ?_
  refine lv_ldc (v := 100000) hx hb hown (hts (.constant RX6 89 (100000)) (by decide +kernel)) dX6_quote_11 ?_
  rw [show (100000 : Int32) = nI 100000 from by decide]
  refine gc_S_v (As := [.int (nI (ce)), .int (nI (1)), .int (nI (100000))]) (rest := []) (c_X6_requireRange l (rq_rg hce kce (by decide))) ⟨hx, hb, hml, hown, hts⟩ (va_cwS 3 hts gX6_quote_X6_requireRange rfl rfl rfl (by decide +kernel) ⟨Nat.le_of_ble_eq_true rfl, Nat.le_of_ble_eq_true rfl⟩) hE hP hD hS hA rfl rfl hl.1 (Nat.le_of_ble_eq_true rfl) dX6_quote_13 ⟨Nat.le_of_ble_eq_true rfl, Nat.le_of_ble_eq_true rfl⟩ (fun u_13 H locs hP hD hS q_13 => ?_)
  refine lv_iload hx hb dX6_quote_16 (lv_at hl 4 rfl) ?_
  refine lv_iconst (v := nI 1) hx hb dX6_quote_18 (by decide) ?_
  refine lv_sipush (v := nI 10000) hx hb dX6_quote_19 (by decide) ?_
  refine gc_S_v (As := [.int (nI (gr)), .int (nI (1)), .int (nI (10000))]) (rest := []) (c_X6_requireRange l (rq_rg hgr kgr (by decide))) ⟨hx, hb, hml, hown, hts⟩ (va_cwS 3 hts gX6_quote_X6_requireRange rfl rfl rfl (by decide +kernel) ⟨Nat.le_of_ble_eq_true rfl, Nat.le_of_ble_eq_true rfl⟩) hE hP hD hS hA rfl rfl hl.1 (Nat.le_of_ble_eq_true rfl) dX6_quote_22 ⟨Nat.le_of_ble_eq_true rfl, Nat.le_of_ble_eq_true rfl⟩ (fun u_22 H locs hP hD hS q_22 => ?_)
  refine lv_aload_n hx hb dX6_quote_25 rfl (lv_at hl 0 rfl) ?_
  refine gc_V_v (As := []) (rest := []) (c_X6_requireCollecting l f0_off (by omega)) ⟨hx, hb, hml, hown, hts⟩ (cwV 0 hts gX6_quote_X6_requireCollecting rfl rfl rfl (by decide +kernel) ⟨Nat.le_of_ble_eq_true rfl, Nat.le_of_ble_eq_true rfl⟩) hE hP hD hS hA _ f0_off rfl rfl rfl rfl hl.1 (Nat.le_of_ble_eq_true rfl) dX6_quote_26 ⟨Nat.le_of_ble_eq_true rfl, Nat.le_of_ble_eq_true rfl⟩ (fun u_26 H locs hP hD hS q_26 => ?_)
  refine lv_aload_n hx hb dX6_quote_29 rfl (lv_at hl 0 rfl) ?_
  refine va_get (D := D) (ci := 7) (v := .ref a_led) (C := RX6) (T := TX6) (N := 8) hx hb hts in_RX6 hown hE.1 (gv1 hP f0_off) 0 rfl rfl 0 (by decide) (hts (.fieldLink RX6 12 "BasketryOffice" "ledger" "LBasketryOffice$Ledger;") (by decide +kernel)) (fun _ h9 => h9) rfl dX6_quote_30 ?_
  refine va_getN (D := D) (ci := 3) (v := .ref a_itl) (C := RX2) (T := TX2) (N := 10) hx hb hts in_RX2 hown hE.1 (gv1 hP f0_led) 0 rfl rfl 0 (by decide) (va_Nw.use rfl (hE.2 (.fieldLinkNest RX6 61 "BasketryOffice$Ledger" "items" "Ljava/util/ArrayList;" "BasketryOffice") (by decide +kernel))) (fun _ h9 => h9) rfl dX6_quote_33 ?_
  refine lv_iload_n hx hb dX6_quote_36 rfl (lv_at hl 1 rfl) ?_
  refine gc_V_r (As := [.int (nI (i))]) (rest := []) (c_Jx4a65c_get_915e3 l f0_itl f0_ita hi hIt.1 hIt.2.1 (hIt.2.2.1 _ hi)) ⟨hx, hb, hml, hown, hts⟩ (cwV 1 hts gX6_quote_Jx4a65c_get_915e3 rfl rfl rfl (by decide +kernel) ⟨Nat.le_of_ble_eq_true rfl, Nat.le_of_ble_eq_true rfl⟩) hE hP hD hS hA _ f0_itl rfl rfl rfl rfl hl.1 (Nat.le_of_ble_eq_true rfl) dX6_quote_37 ⟨Nat.le_of_ble_eq_true rfl, Nat.le_of_ble_eq_true rfl⟩ (fun r_37 u_37 H locs hP hD hS q_37 => ?_)
  subst q_37
  obtain ⟨p_it, f0_it⟩ := hIt.2.2.2 (i) hi
  refine va_castS hx hb hown (hts (.classLink RX6 75 "BasketryOffice$Item") (by decide +kernel)) (hE.1.1 2 _ rfl).2 (gv_recv hE.1 hP rfl f0_it) dX6_quote_40 ?_
  refine lv_aload_n hx hb dX6_quote_43 rfl (lv_at hl 0 rfl) ?_
  refine va_get (D := D) (ci := 7) (v := .int (nI (nw))) (C := RX6) (T := TX6) (N := 8) hx hb hts in_RX6 hown hE.1 (gv1 hP f0_off) 0 rfl rfl 7 (by decide) (hts (.fieldLink RX6 49 "BasketryOffice" "now" "I") (by decide +kernel)) (fun _ h9 => h9) rfl dX6_quote_44 ?_
  refine gc_V_i (As := [.int (nI (nw))]) (rest := []) (c_X1_isInSeason l f0_it (by omega) (hSn i)) ⟨hx, hb, hml, hown, hts⟩ (cwV 1 hts gX6_quote_X1_isInSeason rfl rfl rfl (by decide +kernel) ⟨Nat.le_of_ble_eq_true rfl, Nat.le_of_ble_eq_true rfl⟩) hE hP hD hS hA _ f0_it rfl rfl rfl rfl hl.1 (Nat.le_of_ble_eq_true rfl) dX6_quote_47 ⟨Nat.le_of_ble_eq_true rfl, Nat.le_of_ble_eq_true rfl⟩ (fun r_47 u_47 H locs hP hD hS q_47 => ?_)
  subst q_47
  refine g_bif_ne (tgt := 63) hx hb dX6_quote_50 (by decide) (fun c_50 => ?_) (fun c_50 => absurd c_50 (by rw [hsn]; decide))
  refine lv_iload_n hx hb dX6_quote_63 rfl (lv_at hl 1 rfl) ?_
  refine lv_iload_n hx hb dX6_quote_64 rfl (lv_at hl 2 rfl) ?_
  refine lv_aload_n hx hb dX6_quote_65 rfl (lv_at hl 0 rfl) ?_
  refine va_get (D := D) (ci := 7) (v := .int (nI (nw))) (C := RX6) (T := TX6) (N := 8) hx hb hts in_RX6 hown hE.1 (gv1 hP f0_off) 0 rfl rfl 7 (by decide) (hts (.fieldLink RX6 49 "BasketryOffice" "now" "I") (by decide +kernel)) (fun _ h9 => h9) rfl dX6_quote_66 ?_
  refine gc_S_i (As := [.int (nI (i)), .int (nI (o)), .int (nI (nw))]) (rest := []) (c_X6_slotOf l) ⟨hx, hb, hml, hown, hts⟩ (va_cwS 3 hts gX6_quote_X6_slotOf rfl rfl rfl (by decide +kernel) ⟨Nat.le_of_ble_eq_true rfl, Nat.le_of_ble_eq_true rfl⟩) hE hP hD hS hA rfl rfl hl.1 (Nat.le_of_ble_eq_true rfl) dX6_quote_69 ⟨Nat.le_of_ble_eq_true rfl, Nat.le_of_ble_eq_true rfl⟩ (fun r_69 u_69 H locs hP hD hS q_69 => ?_)
  subst q_69
  refine lv_istore (lv' := [(5, .int (nI (nw * 48 + i * 4 + o))), (0, .ref a_off), (1, .int (nI (i))), (2, .int (nI (o))), (3, .int (nI (ce))), (4, .int (nI (gr)))]) hx hb dX6_quote_72 hl (by decide) rfl (fun ls hl => ?_)
  refine lv_aload_n hx hb dX6_quote_74 rfl (lv_at hl 1 rfl) ?_
  refine va_get (D := D) (ci := 7) (v := .ref a_led) (C := RX6) (T := TX6) (N := 8) hx hb hts in_RX6 hown hE.1 (gv1 hP f0_off) 0 rfl rfl 0 (by decide) (hts (.fieldLink RX6 12 "BasketryOffice" "ledger" "LBasketryOffice$Ledger;") (by decide +kernel)) (fun _ h9 => h9) rfl dX6_quote_75 ?_
  refine lv_iload hx hb dX6_quote_78 (lv_at hl 0 rfl) ?_
  refine gc_V_i (As := [.int (nI (nw * 48 + i * 4 + o))]) (rest := []) (c_X2_hasQuote l f0_led f0_cents b_cents (by omega)) ⟨hx, hb, hml, hown, hts⟩ (cwV 1 hts gX6_quote_X2_hasQuote rfl rfl rfl (by decide +kernel) ⟨Nat.le_of_ble_eq_true rfl, Nat.le_of_ble_eq_true rfl⟩) hE hP hD hS hA _ f0_led rfl rfl rfl rfl hl.1 (Nat.le_of_ble_eq_true rfl) dX6_quote_80 ⟨Nat.le_of_ble_eq_true rfl, Nat.le_of_ble_eq_true rfl⟩ (fun r_80 u_80 H locs hP hD hS q_80 => ?_)
  subst q_80
  refine g_bif_eq (tgt := 96) hx hb dX6_quote_83 (by decide) (fun c_83 => ?_) (fun c_83 => absurd c_83 (by rw [hnq]; decide))
  refine lv_aload_n hx hb dX6_quote_96 rfl (lv_at hl 1 rfl) ?_
  refine va_get (D := D) (ci := 7) (v := .ref a_led) (C := RX6) (T := TX6) (N := 8) hx hb hts in_RX6 hown hE.1 (gv1 hP f0_off) 0 rfl rfl 0 (by decide) (hts (.fieldLink RX6 12 "BasketryOffice" "ledger" "LBasketryOffice$Ledger;") (by decide +kernel)) (fun _ h9 => h9) rfl dX6_quote_97 ?_
  refine lv_iload hx hb dX6_quote_100 (lv_at hl 0 rfl) ?_
  refine lv_iload_n hx hb dX6_quote_102 rfl (lv_at hl 4 rfl) ?_
  refine lv_iload hx hb dX6_quote_103 (lv_at hl 5 rfl) ?_
  refine gc_V_v (As := [.int (nI (nw * 48 + i * 4 + o)), .int (nI (ce)), .int (nI (gr))]) (rest := []) (c_X2_putQuote l f0_led f0_cents f0_grams f0_cc b_cents b_grams b_cc (by omega) (by omega)) ⟨hx, hb, hml, hown, hts⟩ (cwV 3 hts gX6_quote_X2_putQuote rfl rfl rfl (by decide +kernel) ⟨Nat.le_of_ble_eq_true rfl, Nat.le_of_ble_eq_true rfl⟩) hE hP hD hS hA _ f0_led rfl rfl rfl rfl hl.1 (Nat.le_of_ble_eq_true rfl) dX6_quote_105 ⟨Nat.le_of_ble_eq_true rfl, Nat.le_of_ble_eq_true rfl⟩ (fun u_105 H locs hP hD hS q_105 => ?_)
  have f_off := g_ne (x := (a_led, .inr (3, [.ref a_itl, .ref a_cents, .ref a_grams, x_led_3, .ref a_cc, .ref a_fx, .ref a_lc, .ref a_lg, .int (nI (qn + 1)), .int (nI (fq))]))) (g_kne f0_led f0_off (Nat.ne_of_beq_eq_false rfl)) (g_ne (x := (a_grams, eN y 1152 (vf_upd grams (nw * 48 + i * 4 + o) (gr)))) (g_kne f0_grams f0_off (Nat.ne_of_beq_eq_false rfl)) (g_ne (x := (a_cc, eN y 1152 (vf_upd cc (nw * 48 + i * 4 + o) (ce)))) (g_kne f0_cc f0_off (Nat.ne_of_beq_eq_false rfl)) (g_ne (x := (a_cents, eN y 1152 (vf_upd cents (nw * 48 + i * 4 + o) (ce)))) (g_kne f0_cents f0_off (Nat.ne_of_beq_eq_false rfl)) (f0_off))))
  have f_led := g_eq (x := (a_led, .inr (3, [.ref a_itl, .ref a_cents, .ref a_grams, x_led_3, .ref a_cc, .ref a_fx, .ref a_lc, .ref a_lg, .int (nI (qn + 1)), .int (nI (fq))]))) (g_ne (x := (a_grams, eN y 1152 (vf_upd grams (nw * 48 + i * 4 + o) (gr)))) (g_kne f0_grams f0_led (Nat.ne_of_beq_eq_false rfl)) (g_ne (x := (a_cc, eN y 1152 (vf_upd cc (nw * 48 + i * 4 + o) (ce)))) (g_kne f0_cc f0_led (Nat.ne_of_beq_eq_false rfl)) (g_ne (x := (a_cents, eN y 1152 (vf_upd cents (nw * 48 + i * 4 + o) (ce)))) (g_kne f0_cents f0_led (Nat.ne_of_beq_eq_false rfl)) (f0_led))))
  have f_itl := g_ne (x := (a_led, .inr (3, [.ref a_itl, .ref a_cents, .ref a_grams, x_led_3, .ref a_cc, .ref a_fx, .ref a_lc, .ref a_lg, .int (nI (qn + 1)), .int (nI (fq))]))) (g_kne f0_led f0_itl (Nat.ne_of_beq_eq_false rfl)) (g_ne (x := (a_grams, eN y 1152 (vf_upd grams (nw * 48 + i * 4 + o) (gr)))) (g_kne f0_grams f0_itl (Nat.ne_of_beq_eq_false rfl)) (g_ne (x := (a_cc, eN y 1152 (vf_upd cc (nw * 48 + i * 4 + o) (ce)))) (g_kne f0_cc f0_itl (Nat.ne_of_beq_eq_false rfl)) (g_ne (x := (a_cents, eN y 1152 (vf_upd cents (nw * 48 + i * 4 + o) (ce)))) (g_kne f0_cents f0_itl (Nat.ne_of_beq_eq_false rfl)) (f0_itl))))
  have f_cents := g_ne (x := (a_led, .inr (3, [.ref a_itl, .ref a_cents, .ref a_grams, x_led_3, .ref a_cc, .ref a_fx, .ref a_lc, .ref a_lg, .int (nI (qn + 1)), .int (nI (fq))]))) (g_kne f0_led f0_cents (Nat.ne_of_beq_eq_false rfl)) (g_ne (x := (a_grams, eN y 1152 (vf_upd grams (nw * 48 + i * 4 + o) (gr)))) (Ne.symm hdis.1) (g_ne (x := (a_cc, eN y 1152 (vf_upd cc (nw * 48 + i * 4 + o) (ce)))) (Ne.symm hdis.2.1) (g_eq (x := (a_cents, eN y 1152 (vf_upd cents (nw * 48 + i * 4 + o) (ce)))) (f0_cents))))
  have f_grams := g_ne (x := (a_led, .inr (3, [.ref a_itl, .ref a_cents, .ref a_grams, x_led_3, .ref a_cc, .ref a_fx, .ref a_lc, .ref a_lg, .int (nI (qn + 1)), .int (nI (fq))]))) (g_kne f0_led f0_grams (Nat.ne_of_beq_eq_false rfl)) (g_eq (x := (a_grams, eN y 1152 (vf_upd grams (nw * 48 + i * 4 + o) (gr)))) (g_ne (x := (a_cc, eN y 1152 (vf_upd cc (nw * 48 + i * 4 + o) (ce)))) (Ne.symm hdis.2.2) (g_ne (x := (a_cents, eN y 1152 (vf_upd cents (nw * 48 + i * 4 + o) (ce)))) hdis.1 (f0_grams))))
  have f_cc := g_ne (x := (a_led, .inr (3, [.ref a_itl, .ref a_cents, .ref a_grams, x_led_3, .ref a_cc, .ref a_fx, .ref a_lc, .ref a_lg, .int (nI (qn + 1)), .int (nI (fq))]))) (g_kne f0_led f0_cc (Nat.ne_of_beq_eq_false rfl)) (g_ne (x := (a_grams, eN y 1152 (vf_upd grams (nw * 48 + i * 4 + o) (gr)))) hdis.2.2 (g_eq (x := (a_cc, eN y 1152 (vf_upd cc (nw * 48 + i * 4 + o) (ce)))) (g_ne (x := (a_cents, eN y 1152 (vf_upd cents (nw * 48 + i * 4 + o) (ce)))) hdis.2.1 (f0_cc))))
  have f_ita := g_ne (x := (a_led, .inr (3, [.ref a_itl, .ref a_cents, .ref a_grams, x_led_3, .ref a_cc, .ref a_fx, .ref a_lc, .ref a_lg, .int (nI (qn + 1)), .int (nI (fq))]))) (g_kne f0_led f0_ita (Nat.ne_of_beq_eq_false rfl)) (g_ne (x := (a_grams, eN y 1152 (vf_upd grams (nw * 48 + i * 4 + o) (gr)))) (g_kne f0_grams f0_ita (Nat.ne_of_beq_eq_false rfl)) (g_ne (x := (a_cc, eN y 1152 (vf_upd cc (nw * 48 + i * 4 + o) (ce)))) (g_kne f0_cc f0_ita (Nat.ne_of_beq_eq_false rfl)) (g_ne (x := (a_cents, eN y 1152 (vf_upd cents (nw * 48 + i * 4 + o) (ce)))) (g_kne f0_cents f0_ita (Nat.ne_of_beq_eq_false rfl)) (f0_ita))))
  have f_it := g_ne (x := (a_led, .inr (3, [.ref a_itl, .ref a_cents, .ref a_grams, x_led_3, .ref a_cc, .ref a_fx, .ref a_lc, .ref a_lg, .int (nI (qn + 1)), .int (nI (fq))]))) (g_kne f0_led f0_it (Nat.ne_of_beq_eq_false rfl)) (g_ne (x := (a_grams, eN y 1152 (vf_upd grams (nw * 48 + i * 4 + o) (gr)))) (g_kne f0_grams f0_it (Nat.ne_of_beq_eq_false rfl)) (g_ne (x := (a_cc, eN y 1152 (vf_upd cc (nw * 48 + i * 4 + o) (ce)))) (g_kne f0_cc f0_it (Nat.ne_of_beq_eq_false rfl)) (g_ne (x := (a_cents, eN y 1152 (vf_upd cents (nw * 48 + i * 4 + o) (ce)))) (g_kne f0_cents f0_it (Nat.ne_of_beq_eq_false rfl)) (f0_it))))
  have hItc := (gIt.set (x := (a_led, .inr (3, [.ref a_itl, .ref a_cents, .ref a_grams, x_led_3, .ref a_cc, .ref a_fx, .ref a_lc, .ref a_lg, .int (nI (qn + 1)), .int (nI (fq))]))) (gIt.set (x := (a_grams, eN y 1152 (vf_upd grams (nw * 48 + i * 4 + o) (gr)))) (gIt.set (x := (a_cc, eN y 1152 (vf_upd cc (nw * 48 + i * 4 + o) (ce)))) (gIt.set (x := (a_cents, eN y 1152 (vf_upd cents (nw * 48 + i * 4 + o) (ce)))) hIt (f0_cents) (Nat.ne_of_beq_eq_false rfl)) (g_ne (x := (a_cents, eN y 1152 (vf_upd cents (nw * 48 + i * 4 + o) (ce)))) hdis.2.1 (f0_cc)) (Nat.ne_of_beq_eq_false rfl)) (g_ne (x := (a_cc, eN y 1152 (vf_upd cc (nw * 48 + i * 4 + o) (ce)))) (Ne.symm hdis.2.2) (g_ne (x := (a_cents, eN y 1152 (vf_upd cents (nw * 48 + i * 4 + o) (ce)))) hdis.1 (f0_grams))) (Nat.ne_of_beq_eq_false rfl)) (g_ne (x := (a_grams, eN y 1152 (vf_upd grams (nw * 48 + i * 4 + o) (gr)))) (g_kne f0_grams f0_led (Nat.ne_of_beq_eq_false rfl)) (g_ne (x := (a_cc, eN y 1152 (vf_upd cc (nw * 48 + i * 4 + o) (ce)))) (g_kne f0_cc f0_led (Nat.ne_of_beq_eq_false rfl)) (g_ne (x := (a_cents, eN y 1152 (vf_upd cents (nw * 48 + i * 4 + o) (ce)))) (g_kne f0_cents f0_led (Nat.ne_of_beq_eq_false rfl)) (f0_led)))) (Nat.ne_of_beq_eq_false rfl))
  refine lv_aload_n hx hb dX6_quote_108 rfl (lv_at hl 1 rfl) ?_
  refine va_get (D := D) (ci := 7) (v := .ref a_led) (C := RX6) (T := TX6) (N := 8) hx hb hts in_RX6 hown hE.1 (gv1 hP f_off) 0 rfl rfl 0 (by decide) (hts (.fieldLink RX6 12 "BasketryOffice" "ledger" "LBasketryOffice$Ledger;") (by decide +kernel)) (fun _ h9 => h9) rfl dX6_quote_109 ?_
  refine va_getN (D := D) (ci := 3) (v := .int (nI (qn + 1))) (C := RX2) (T := TX2) (N := 10) hx hb hts in_RX2 hown hE.1 (gv1 hP f_led) 0 rfl rfl 8 (by decide) (va_Nw.use rfl (hE.2 (.fieldLinkNest RX6 115 "BasketryOffice$Ledger" "quotesOfNow" "I" "BasketryOffice") (by decide +kernel))) (fun _ h9 => h9) rfl dX6_quote_112 ?_
  refine g_iret hx hb hr hlocks () dX6_quote_115 hS hP hD ?_
  exact rfl

set_option maxHeartbeats 4000000 in
set_option maxRecDepth 100000 in
theorem x0_X6_fix (l : Launch) {D : va_G} {y : Nat → Nat} {ws : va_W} {x_off_1 : Value} {x_off_2 : Value} {x_off_3 : Value} {x_off_4 : Value} {x_off_5 : Value} {x_off_6 : Value} {x_led_2 : Value} {x_led_3 : Value} {x_led_6 : Value} {x_led_7 : Value} {x_led_8 : Value} {x_itl_0 : Value} {p_off p_led p_itl p_cents p_cc p_fx a_off a_led a_itl a_cents a_cc a_fx a_ita : Nat} {cents : Nat → Nat} {cc : Nat → Nat} {fx : Nat → Bool} {t i o ce : Int32} {nw n fq : Nat} (f0_off : ws[p_off]? = some (a_off, .inr (7, [.ref a_led, x_off_1, x_off_2, x_off_3, x_off_4, x_off_5, x_off_6, .int (nI (nw))]))) (f0_led : ws[p_led]? = some (a_led, .inr (3, [.ref a_itl, .ref a_cents, x_led_2, x_led_3, .ref a_cc, .ref a_fx, x_led_6, x_led_7, x_led_8, .int (nI (fq))]))) (f0_itl : ws[p_itl]? = some (a_itl, .inr (0, [x_itl_0, .ref a_ita, .int (nI (n))]))) (f0_cents : ws[p_cents]? = some (a_cents, eN y 1152 cents)) (f0_cc : ws[p_cc]? = some (a_cc, eN y 1152 cc)) (f0_fx : ws[p_fx]? = some (a_fx, eZ y 1152 fx)) (b_cents : ∀ k, cents k ≤ 100000) (b_cc : ∀ k, cc k ≤ 100000) (hfl : l.stackTraces = false) (hw : nw ≤ 24) (hn : n ≤ 12)  (hbad : t < 0 ∨ nI nw ≤ t) : gMxi l yX6_fix wsX6_fix ({ frames := 7, cells := 1, slots := 6, locals := 121 }) D y [.ref a_off, .int (t), .int (i), .int (o), .int (ce)] ws "java/lang/IndexOutOfBoundsException" := by
  refine g_metx_i (cc := cX6_fix) (maxL := 6) (by decide) rfl (Nat.le_of_ble_eq_true rfl) ?_
  intro p e s m below meth c A hx hb hml hr hts hown hnm hlocks hE hP hD hS hA hex hX ls hl
  have hown : s.vm.findClass RX6 = some m.cls := hown
  have hl : lv_has ls 6 [(0, .ref a_off), (1, .int (t)), (2, .int (i)), (3, .int (o)), (4, .int (ce))] := hl
  refine lv_aload_n hx hb dX6_fix_0 rfl (lv_at hl 0 rfl) ?_
  refine lv_iload_n hx hb dX6_fix_1 rfl (lv_at hl 1 rfl) ?_
  exact gcx_V_v (As := [.int (t)]) (rest := []) (x_X6_requirePublished l f0_off hfl hbad) ⟨hx, hb, hml, hown, hts⟩ (cwV 1 hts gX6_fix_X6_requirePublished rfl rfl rfl (by decide +kernel) ⟨Nat.le_of_ble_eq_true rfl, Nat.le_of_ble_eq_true rfl⟩) hE hX hex hlocks hP hD hS hA _ f0_off rfl rfl rfl rfl hl.1 (Nat.le_of_ble_eq_true rfl) dX6_fix_2 ⟨Nat.le_of_ble_eq_true rfl, Nat.le_of_ble_eq_true rfl⟩ (Nat.le_of_ble_eq_true rfl) (Nat.le_of_ble_eq_true rfl)

set_option maxHeartbeats 4000000 in
set_option maxRecDepth 100000 in
theorem x1_X6_fix (l : Launch) {D : va_G} {y : Nat → Nat} {ws : va_W} {x_off_1 : Value} {x_off_2 : Value} {x_off_3 : Value} {x_off_4 : Value} {x_off_5 : Value} {x_off_6 : Value} {x_led_2 : Value} {x_led_3 : Value} {x_led_6 : Value} {x_led_7 : Value} {x_led_8 : Value} {x_itl_0 : Value} {p_off p_led p_itl p_cents p_cc p_fx a_off a_led a_itl a_cents a_cc a_fx a_ita : Nat} {cents : Nat → Nat} {cc : Nat → Nat} {fx : Nat → Bool} {t : Nat} {i o ce : Int32} {nw n fq : Nat} (f0_off : ws[p_off]? = some (a_off, .inr (7, [.ref a_led, x_off_1, x_off_2, x_off_3, x_off_4, x_off_5, x_off_6, .int (nI (nw))]))) (f0_led : ws[p_led]? = some (a_led, .inr (3, [.ref a_itl, .ref a_cents, x_led_2, x_led_3, .ref a_cc, .ref a_fx, x_led_6, x_led_7, x_led_8, .int (nI (fq))]))) (f0_itl : ws[p_itl]? = some (a_itl, .inr (0, [x_itl_0, .ref a_ita, .int (nI (n))]))) (f0_cents : ws[p_cents]? = some (a_cents, eN y 1152 cents)) (f0_cc : ws[p_cc]? = some (a_cc, eN y 1152 cc)) (f0_fx : ws[p_fx]? = some (a_fx, eZ y 1152 fx)) (b_cents : ∀ k, cents k ≤ 100000) (b_cc : ∀ k, cc k ≤ 100000) (hfl : l.stackTraces = false) (hw : nw ≤ 24) (hn : n ≤ 12) (ht : t < nw) (hbad : i < 0 ∨ nI n ≤ i) : gMxi l yX6_fix wsX6_fix ({ frames := 7, cells := 1, slots := 6, locals := 121 }) D y [.ref a_off, .int (nI (t)), .int (i), .int (o), .int (ce)] ws "java/lang/IndexOutOfBoundsException" := by
  refine g_metx_i (cc := cX6_fix) (maxL := 6) (by decide) rfl (Nat.le_of_ble_eq_true rfl) ?_
  intro p e s m below meth c A hx hb hml hr hts hown hnm hlocks hE hP hD hS hA hex hX ls hl
  have hown : s.vm.findClass RX6 = some m.cls := hown
  have hl : lv_has ls 6 [(0, .ref a_off), (1, .int (nI (t))), (2, .int (i)), (3, .int (o)), (4, .int (ce))] := hl
  refine lv_aload_n hx hb dX6_fix_0 rfl (lv_at hl 0 rfl) ?_
  refine lv_iload_n hx hb dX6_fix_1 rfl (lv_at hl 1 rfl) ?_
  refine gc_V_v (As := [.int (nI (t))]) (rest := []) (c_X6_requirePublished l f0_off (rq_lt ht (by omega))) ⟨hx, hb, hml, hown, hts⟩ (cwV 1 hts gX6_fix_X6_requirePublished rfl rfl rfl (by decide +kernel) ⟨Nat.le_of_ble_eq_true rfl, Nat.le_of_ble_eq_true rfl⟩) hE hP hD hS hA _ f0_off rfl rfl rfl rfl hl.1 (Nat.le_of_ble_eq_true rfl) dX6_fix_2 ⟨Nat.le_of_ble_eq_true rfl, Nat.le_of_ble_eq_true rfl⟩ (fun u_2 H locs hP hD hS q_2 => ?_)
  refine lv_aload_n hx hb dX6_fix_5 rfl (lv_at hl 0 rfl) ?_
  refine lv_iload_n hx hb dX6_fix_6 rfl (lv_at hl 2 rfl) ?_
  exact gcx_V_v (As := [.int (i)]) (rest := []) (x_X6_requireItem l f0_off f0_led f0_itl hfl hbad) ⟨hx, hb, hml, hown, hts⟩ (cwV 1 hts gX6_fix_X6_requireItem rfl rfl rfl (by decide +kernel) ⟨Nat.le_of_ble_eq_true rfl, Nat.le_of_ble_eq_true rfl⟩) hE hX hex hlocks hP hD hS hA _ f0_off rfl rfl rfl rfl hl.1 (Nat.le_of_ble_eq_true rfl) dX6_fix_7 ⟨Nat.le_of_ble_eq_true rfl, Nat.le_of_ble_eq_true rfl⟩ (Nat.le_of_ble_eq_true rfl) (Nat.le_of_ble_eq_true rfl)

set_option maxHeartbeats 4000000 in
set_option maxRecDepth 100000 in
theorem x2_X6_fix (l : Launch) {D : va_G} {y : Nat → Nat} {ws : va_W} {x_off_1 : Value} {x_off_2 : Value} {x_off_3 : Value} {x_off_4 : Value} {x_off_5 : Value} {x_off_6 : Value} {x_led_2 : Value} {x_led_3 : Value} {x_led_6 : Value} {x_led_7 : Value} {x_led_8 : Value} {x_itl_0 : Value} {p_off p_led p_itl p_cents p_cc p_fx a_off a_led a_itl a_cents a_cc a_fx a_ita : Nat} {cents : Nat → Nat} {cc : Nat → Nat} {fx : Nat → Bool} {t i : Nat} {o ce : Int32} {nw n fq : Nat} (f0_off : ws[p_off]? = some (a_off, .inr (7, [.ref a_led, x_off_1, x_off_2, x_off_3, x_off_4, x_off_5, x_off_6, .int (nI (nw))]))) (f0_led : ws[p_led]? = some (a_led, .inr (3, [.ref a_itl, .ref a_cents, x_led_2, x_led_3, .ref a_cc, .ref a_fx, x_led_6, x_led_7, x_led_8, .int (nI (fq))]))) (f0_itl : ws[p_itl]? = some (a_itl, .inr (0, [x_itl_0, .ref a_ita, .int (nI (n))]))) (f0_cents : ws[p_cents]? = some (a_cents, eN y 1152 cents)) (f0_cc : ws[p_cc]? = some (a_cc, eN y 1152 cc)) (f0_fx : ws[p_fx]? = some (a_fx, eZ y 1152 fx)) (b_cents : ∀ k, cents k ≤ 100000) (b_cc : ∀ k, cc k ≤ 100000) (hfl : l.stackTraces = false) (hw : nw ≤ 24) (hn : n ≤ 12) (ht : t < nw) (hi : i < n) (hbad : o < 0 ∨ nI 4 ≤ o) : gMxi l yX6_fix wsX6_fix ({ frames := 7, cells := 1, slots := 6, locals := 120 }) D y [.ref a_off, .int (nI (t)), .int (nI (i)), .int (o), .int (ce)] ws "java/lang/IndexOutOfBoundsException" := by
  refine g_metx_i (cc := cX6_fix) (maxL := 6) (by decide) rfl (Nat.le_of_ble_eq_true rfl) ?_
  intro p e s m below meth c A hx hb hml hr hts hown hnm hlocks hE hP hD hS hA hex hX ls hl
  have hown : s.vm.findClass RX6 = some m.cls := hown
  have hl : lv_has ls 6 [(0, .ref a_off), (1, .int (nI (t))), (2, .int (nI (i))), (3, .int (o)), (4, .int (ce))] := hl
  refine lv_aload_n hx hb dX6_fix_0 rfl (lv_at hl 0 rfl) ?_
  refine lv_iload_n hx hb dX6_fix_1 rfl (lv_at hl 1 rfl) ?_
  refine gc_V_v (As := [.int (nI (t))]) (rest := []) (c_X6_requirePublished l f0_off (rq_lt ht (by omega))) ⟨hx, hb, hml, hown, hts⟩ (cwV 1 hts gX6_fix_X6_requirePublished rfl rfl rfl (by decide +kernel) ⟨Nat.le_of_ble_eq_true rfl, Nat.le_of_ble_eq_true rfl⟩) hE hP hD hS hA _ f0_off rfl rfl rfl rfl hl.1 (Nat.le_of_ble_eq_true rfl) dX6_fix_2 ⟨Nat.le_of_ble_eq_true rfl, Nat.le_of_ble_eq_true rfl⟩ (fun u_2 H locs hP hD hS q_2 => ?_)
  refine lv_aload_n hx hb dX6_fix_5 rfl (lv_at hl 0 rfl) ?_
  refine lv_iload_n hx hb dX6_fix_6 rfl (lv_at hl 2 rfl) ?_
  refine gc_V_v (As := [.int (nI (i))]) (rest := []) (c_X6_requireItem l f0_off f0_led f0_itl (rq_lt hi (by omega))) ⟨hx, hb, hml, hown, hts⟩ (cwV 1 hts gX6_fix_X6_requireItem rfl rfl rfl (by decide +kernel) ⟨Nat.le_of_ble_eq_true rfl, Nat.le_of_ble_eq_true rfl⟩) hE hP hD hS hA _ f0_off rfl rfl rfl rfl hl.1 (Nat.le_of_ble_eq_true rfl) dX6_fix_7 ⟨Nat.le_of_ble_eq_true rfl, Nat.le_of_ble_eq_true rfl⟩ (fun u_7 H locs hP hD hS q_7 => ?_)
  refine lv_iload_n hx hb dX6_fix_10 rfl (lv_at hl 3 rfl) ?_
  exact gcx_S_v (As := [.int (o)]) (rest := []) (x_X6_requireOutlet l hfl hbad) ⟨hx, hb, hml, hown, hts⟩ (va_cwS 1 hts gX6_fix_X6_requireOutlet rfl rfl rfl (by decide +kernel) ⟨Nat.le_of_ble_eq_true rfl, Nat.le_of_ble_eq_true rfl⟩) hE hX hex hlocks hP hD hS hA rfl rfl hl.1 (Nat.le_of_ble_eq_true rfl) dX6_fix_11 ⟨Nat.le_of_ble_eq_true rfl, Nat.le_of_ble_eq_true rfl⟩ (Nat.le_of_ble_eq_true rfl) (Nat.le_of_ble_eq_true rfl)

set_option maxHeartbeats 4000000 in
set_option maxRecDepth 100000 in
theorem x3_X6_fix (l : Launch) {D : va_G} {y : Nat → Nat} {ws : va_W} {x_off_1 : Value} {x_off_2 : Value} {x_off_3 : Value} {x_off_4 : Value} {x_off_5 : Value} {x_off_6 : Value} {x_led_2 : Value} {x_led_3 : Value} {x_led_6 : Value} {x_led_7 : Value} {x_led_8 : Value} {x_itl_0 : Value} {p_off p_led p_itl p_cents p_cc p_fx a_off a_led a_itl a_cents a_cc a_fx a_ita : Nat} {cents : Nat → Nat} {cc : Nat → Nat} {fx : Nat → Bool} {t i o : Nat} {ce : Int32} {nw n fq : Nat} (f0_off : ws[p_off]? = some (a_off, .inr (7, [.ref a_led, x_off_1, x_off_2, x_off_3, x_off_4, x_off_5, x_off_6, .int (nI (nw))]))) (f0_led : ws[p_led]? = some (a_led, .inr (3, [.ref a_itl, .ref a_cents, x_led_2, x_led_3, .ref a_cc, .ref a_fx, x_led_6, x_led_7, x_led_8, .int (nI (fq))]))) (f0_itl : ws[p_itl]? = some (a_itl, .inr (0, [x_itl_0, .ref a_ita, .int (nI (n))]))) (f0_cents : ws[p_cents]? = some (a_cents, eN y 1152 cents)) (f0_cc : ws[p_cc]? = some (a_cc, eN y 1152 cc)) (f0_fx : ws[p_fx]? = some (a_fx, eZ y 1152 fx)) (b_cents : ∀ k, cents k ≤ 100000) (b_cc : ∀ k, cc k ≤ 100000) (hfl : l.stackTraces = false) (hw : nw ≤ 24) (hn : n ≤ 12) (ht : t < nw) (hi : i < n) (ho : o < 4) (hbad : ce < nI 1 ∨ nI 100000 < ce) : gMxi l yX6_fix wsX6_fix ({ frames := 7, cells := 1, slots := 6, locals := 122 }) D y [.ref a_off, .int (nI (t)), .int (nI (i)), .int (nI (o)), .int (ce)] ws "java/lang/IllegalArgumentException" := by
  refine g_metx_i (cc := cX6_fix) (maxL := 6) (by decide) rfl (Nat.le_of_ble_eq_true rfl) ?_
  intro p e s m below meth c A hx hb hml hr hts hown hnm hlocks hE hP hD hS hA hex hX ls hl
  have hown : s.vm.findClass RX6 = some m.cls := hown
  have hl : lv_has ls 6 [(0, .ref a_off), (1, .int (nI (t))), (2, .int (nI (i))), (3, .int (nI (o))), (4, .int (ce))] := hl
  refine lv_aload_n hx hb dX6_fix_0 rfl (lv_at hl 0 rfl) ?_
  refine lv_iload_n hx hb dX6_fix_1 rfl (lv_at hl 1 rfl) ?_
  refine gc_V_v (As := [.int (nI (t))]) (rest := []) (c_X6_requirePublished l f0_off (rq_lt ht (by omega))) ⟨hx, hb, hml, hown, hts⟩ (cwV 1 hts gX6_fix_X6_requirePublished rfl rfl rfl (by decide +kernel) ⟨Nat.le_of_ble_eq_true rfl, Nat.le_of_ble_eq_true rfl⟩) hE hP hD hS hA _ f0_off rfl rfl rfl rfl hl.1 (Nat.le_of_ble_eq_true rfl) dX6_fix_2 ⟨Nat.le_of_ble_eq_true rfl, Nat.le_of_ble_eq_true rfl⟩ (fun u_2 H locs hP hD hS q_2 => ?_)
  refine lv_aload_n hx hb dX6_fix_5 rfl (lv_at hl 0 rfl) ?_
  refine lv_iload_n hx hb dX6_fix_6 rfl (lv_at hl 2 rfl) ?_
  refine gc_V_v (As := [.int (nI (i))]) (rest := []) (c_X6_requireItem l f0_off f0_led f0_itl (rq_lt hi (by omega))) ⟨hx, hb, hml, hown, hts⟩ (cwV 1 hts gX6_fix_X6_requireItem rfl rfl rfl (by decide +kernel) ⟨Nat.le_of_ble_eq_true rfl, Nat.le_of_ble_eq_true rfl⟩) hE hP hD hS hA _ f0_off rfl rfl rfl rfl hl.1 (Nat.le_of_ble_eq_true rfl) dX6_fix_7 ⟨Nat.le_of_ble_eq_true rfl, Nat.le_of_ble_eq_true rfl⟩ (fun u_7 H locs hP hD hS q_7 => ?_)
  refine lv_iload_n hx hb dX6_fix_10 rfl (lv_at hl 3 rfl) ?_
  refine gc_S_v (As := [.int (nI (o))]) (rest := []) (c_X6_requireOutlet l (rq_lt ho (by omega))) ⟨hx, hb, hml, hown, hts⟩ (va_cwS 1 hts gX6_fix_X6_requireOutlet rfl rfl rfl (by decide +kernel) ⟨Nat.le_of_ble_eq_true rfl, Nat.le_of_ble_eq_true rfl⟩) hE hP hD hS hA rfl rfl hl.1 (Nat.le_of_ble_eq_true rfl) dX6_fix_11 ⟨Nat.le_of_ble_eq_true rfl, Nat.le_of_ble_eq_true rfl⟩ (fun u_11 H locs hP hD hS q_11 => ?_)
  refine lv_iload hx hb dX6_fix_14 (lv_at hl 4 rfl) ?_
  refine lv_iconst (v := nI 1) hx hb dX6_fix_16 (by decide) ?_
  refine lv_ldc (v := 100000) hx hb hown (hts (.constant RX6 89 (100000)) (by decide +kernel)) dX6_fix_17 ?_
  rw [show (100000 : Int32) = nI 100000 from by decide]
  exact gcx_S_v (As := [.int (ce), .int (nI (1)), .int (nI (100000))]) (rest := []) (x_X6_requireRange l hfl hbad) ⟨hx, hb, hml, hown, hts⟩ (va_cwS 3 hts gX6_fix_X6_requireRange rfl rfl rfl (by decide +kernel) ⟨Nat.le_of_ble_eq_true rfl, Nat.le_of_ble_eq_true rfl⟩) hE hX hex hlocks hP hD hS hA rfl rfl hl.1 (Nat.le_of_ble_eq_true rfl) dX6_fix_19 ⟨Nat.le_of_ble_eq_true rfl, Nat.le_of_ble_eq_true rfl⟩ (Nat.le_of_ble_eq_true rfl) (Nat.le_of_ble_eq_true rfl)

set_option maxHeartbeats 4000000 in
set_option maxRecDepth 100000 in
theorem x4_X6_fix (l : Launch) {D : va_G} {y : Nat → Nat} {ws : va_W} {x_off_1 : Value} {x_off_2 : Value} {x_off_3 : Value} {x_off_4 : Value} {x_off_5 : Value} {x_off_6 : Value} {x_led_2 : Value} {x_led_3 : Value} {x_led_6 : Value} {x_led_7 : Value} {x_led_8 : Value} {x_itl_0 : Value} {p_off p_led p_itl p_cents p_cc p_fx a_off a_led a_itl a_cents a_cc a_fx a_ita : Nat} {cents : Nat → Nat} {cc : Nat → Nat} {fx : Nat → Bool} {t i o ce : Nat} {nw n fq : Nat} (f0_off : ws[p_off]? = some (a_off, .inr (7, [.ref a_led, x_off_1, x_off_2, x_off_3, x_off_4, x_off_5, x_off_6, .int (nI (nw))]))) (f0_led : ws[p_led]? = some (a_led, .inr (3, [.ref a_itl, .ref a_cents, x_led_2, x_led_3, .ref a_cc, .ref a_fx, x_led_6, x_led_7, x_led_8, .int (nI (fq))]))) (f0_itl : ws[p_itl]? = some (a_itl, .inr (0, [x_itl_0, .ref a_ita, .int (nI (n))]))) (f0_cents : ws[p_cents]? = some (a_cents, eN y 1152 cents)) (f0_cc : ws[p_cc]? = some (a_cc, eN y 1152 cc)) (f0_fx : ws[p_fx]? = some (a_fx, eZ y 1152 fx)) (b_cents : ∀ k, cents k ≤ 100000) (b_cc : ∀ k, cc k ≤ 100000) (hfl : l.stackTraces = false) (hw : nw ≤ 24) (hn : n ≤ 12) (ht : t < nw) (hi : i < n) (ho : o < 4) (hce : 1 ≤ ce) (kce : ce ≤ 100000) (hbad : cents (t * 48 + i * 4 + o) = 0) : gMxi l yX6_fix wsX6_fix ({ frames := 7, cells := 1, slots := 6, locals := 121 }) D y [.ref a_off, .int (nI (t)), .int (nI (i)), .int (nI (o)), .int (nI (ce))] ws "java/lang/IllegalStateException" := by
  refine g_metx_i (cc := cX6_fix) (maxL := 6) (by decide) rfl (Nat.le_of_ble_eq_true rfl) ?_
  intro p e s m below meth c A hx hb hml hr hts hown hnm hlocks hE hP hD hS hA hex hX ls hl
  have hown : s.vm.findClass RX6 = some m.cls := hown
  have hl : lv_has ls 6 [(0, .ref a_off), (1, .int (nI (t))), (2, .int (nI (i))), (3, .int (nI (o))), (4, .int (nI (ce)))] := hl
  refine lv_aload_n hx hb dX6_fix_0 rfl (lv_at hl 0 rfl) ?_
  refine lv_iload_n hx hb dX6_fix_1 rfl (lv_at hl 1 rfl) ?_
  refine gc_V_v (As := [.int (nI (t))]) (rest := []) (c_X6_requirePublished l f0_off (rq_lt ht (by omega))) ⟨hx, hb, hml, hown, hts⟩ (cwV 1 hts gX6_fix_X6_requirePublished rfl rfl rfl (by decide +kernel) ⟨Nat.le_of_ble_eq_true rfl, Nat.le_of_ble_eq_true rfl⟩) hE hP hD hS hA _ f0_off rfl rfl rfl rfl hl.1 (Nat.le_of_ble_eq_true rfl) dX6_fix_2 ⟨Nat.le_of_ble_eq_true rfl, Nat.le_of_ble_eq_true rfl⟩ (fun u_2 H locs hP hD hS q_2 => ?_)
  refine lv_aload_n hx hb dX6_fix_5 rfl (lv_at hl 0 rfl) ?_
  refine lv_iload_n hx hb dX6_fix_6 rfl (lv_at hl 2 rfl) ?_
  refine gc_V_v (As := [.int (nI (i))]) (rest := []) (c_X6_requireItem l f0_off f0_led f0_itl (rq_lt hi (by omega))) ⟨hx, hb, hml, hown, hts⟩ (cwV 1 hts gX6_fix_X6_requireItem rfl rfl rfl (by decide +kernel) ⟨Nat.le_of_ble_eq_true rfl, Nat.le_of_ble_eq_true rfl⟩) hE hP hD hS hA _ f0_off rfl rfl rfl rfl hl.1 (Nat.le_of_ble_eq_true rfl) dX6_fix_7 ⟨Nat.le_of_ble_eq_true rfl, Nat.le_of_ble_eq_true rfl⟩ (fun u_7 H locs hP hD hS q_7 => ?_)
  refine lv_iload_n hx hb dX6_fix_10 rfl (lv_at hl 3 rfl) ?_
  refine gc_S_v (As := [.int (nI (o))]) (rest := []) (c_X6_requireOutlet l (rq_lt ho (by omega))) ⟨hx, hb, hml, hown, hts⟩ (va_cwS 1 hts gX6_fix_X6_requireOutlet rfl rfl rfl (by decide +kernel) ⟨Nat.le_of_ble_eq_true rfl, Nat.le_of_ble_eq_true rfl⟩) hE hP hD hS hA rfl rfl hl.1 (Nat.le_of_ble_eq_true rfl) dX6_fix_11 ⟨Nat.le_of_ble_eq_true rfl, Nat.le_of_ble_eq_true rfl⟩ (fun u_11 H locs hP hD hS q_11 => ?_)
  refine lv_iload hx hb dX6_fix_14 (lv_at hl 4 rfl) ?_
  refine lv_iconst (v := nI 1) hx hb dX6_fix_16 (by decide) ?_
  refine lv_ldc (v := 100000) hx hb hown (hts (.constant RX6 89 (100000)) (by decide +kernel)) dX6_fix_17 ?_
  rw [show (100000 : Int32) = nI 100000 from by decide]
  refine gc_S_v (As := [.int (nI (ce)), .int (nI (1)), .int (nI (100000))]) (rest := []) (c_X6_requireRange l (rq_rg hce kce (by decide))) ⟨hx, hb, hml, hown, hts⟩ (va_cwS 3 hts gX6_fix_X6_requireRange rfl rfl rfl (by decide +kernel) ⟨Nat.le_of_ble_eq_true rfl, Nat.le_of_ble_eq_true rfl⟩) hE hP hD hS hA rfl rfl hl.1 (Nat.le_of_ble_eq_true rfl) dX6_fix_19 ⟨Nat.le_of_ble_eq_true rfl, Nat.le_of_ble_eq_true rfl⟩ (fun u_19 H locs hP hD hS q_19 => ?_)
  refine lv_iload_n hx hb dX6_fix_22 rfl (lv_at hl 2 rfl) ?_
  refine lv_iload_n hx hb dX6_fix_23 rfl (lv_at hl 3 rfl) ?_
  refine lv_iload_n hx hb dX6_fix_24 rfl (lv_at hl 1 rfl) ?_
  refine gc_S_i (As := [.int (nI (i)), .int (nI (o)), .int (nI (t))]) (rest := []) (c_X6_slotOf l) ⟨hx, hb, hml, hown, hts⟩ (va_cwS 3 hts gX6_fix_X6_slotOf rfl rfl rfl (by decide +kernel) ⟨Nat.le_of_ble_eq_true rfl, Nat.le_of_ble_eq_true rfl⟩) hE hP hD hS hA rfl rfl hl.1 (Nat.le_of_ble_eq_true rfl) dX6_fix_25 ⟨Nat.le_of_ble_eq_true rfl, Nat.le_of_ble_eq_true rfl⟩ (fun r_25 u_25 H locs hP hD hS q_25 => ?_)
  subst q_25
  refine lv_istore (lv' := [(5, .int (nI (t * 48 + i * 4 + o))), (0, .ref a_off), (1, .int (nI (t))), (2, .int (nI (i))), (3, .int (nI (o))), (4, .int (nI (ce)))]) hx hb dX6_fix_28 hl (by decide) rfl (fun ls hl => ?_)
  refine lv_aload_n hx hb dX6_fix_30 rfl (lv_at hl 1 rfl) ?_
  refine lv_iload hx hb dX6_fix_31 (lv_at hl 0 rfl) ?_
  exact gcx_V_v (As := [.int (nI (t * 48 + i * 4 + o))]) (rest := []) (x_X6_requireQuote l f0_off f0_led f0_cents b_cents hfl (by omega) hbad) ⟨hx, hb, hml, hown, hts⟩ (cwV 1 hts gX6_fix_X6_requireQuote rfl rfl rfl (by decide +kernel) ⟨Nat.le_of_ble_eq_true rfl, Nat.le_of_ble_eq_true rfl⟩) hE hX hex hlocks hP hD hS hA _ f0_off rfl rfl rfl rfl hl.1 (Nat.le_of_ble_eq_true rfl) dX6_fix_33 ⟨Nat.le_of_ble_eq_true rfl, Nat.le_of_ble_eq_true rfl⟩ (Nat.le_of_ble_eq_true rfl) (Nat.le_of_ble_eq_true rfl)

theorem in_c_X6_fix_RX6 : ∀ w ∈ wsX60, w ∈ wsX6_fix := by decide +kernel
set_option maxHeartbeats 4000000 in
set_option maxRecDepth 100000 in
theorem c_X6_fix (l : Launch) {D : va_G} {y : Nat → Nat} {ws : va_W} {x_off_1 : Value} {x_off_2 : Value} {x_off_3 : Value} {x_off_4 : Value} {x_off_5 : Value} {x_off_6 : Value} {x_led_2 : Value} {x_led_3 : Value} {x_led_6 : Value} {x_led_7 : Value} {x_led_8 : Value} {x_itl_0 : Value} {p_off p_led p_itl p_cents p_cc p_fx a_off a_led a_itl a_cents a_cc a_fx a_ita : Nat} {cents : Nat → Nat} {cc : Nat → Nat} {fx : Nat → Bool} {t i o ce : Nat} {nw n fq : Nat} (f0_off : ws[p_off]? = some (a_off, .inr (7, [.ref a_led, x_off_1, x_off_2, x_off_3, x_off_4, x_off_5, x_off_6, .int (nI (nw))]))) (f0_led : ws[p_led]? = some (a_led, .inr (3, [.ref a_itl, .ref a_cents, x_led_2, x_led_3, .ref a_cc, .ref a_fx, x_led_6, x_led_7, x_led_8, .int (nI (fq))]))) (f0_itl : ws[p_itl]? = some (a_itl, .inr (0, [x_itl_0, .ref a_ita, .int (nI (n))]))) (f0_cents : ws[p_cents]? = some (a_cents, eN y 1152 cents)) (f0_cc : ws[p_cc]? = some (a_cc, eN y 1152 cc)) (f0_fx : ws[p_fx]? = some (a_fx, eZ y 1152 fx)) (b_cents : ∀ k, cents k ≤ 100000) (b_cc : ∀ k, cc k ≤ 100000) (hw : nw ≤ 24) (hn : n ≤ 12) (ht : t < nw) (hi : i < n) (ho : o < 4) (hce : 1 ≤ ce) (kce : ce ≤ 100000) (hq : 0 < cents (t * 48 + i * 4 + o)) (hdis : p_cc ≠ p_fx ∧ p_cents ≠ p_cc ∧ p_cents ≠ p_fx) : gMi l yX6_fix wsX6_fix ({ frames := 2, cells := 0, slots := 0, locals := 42 }) D y [.ref a_off, .int (nI (t)), .int (nI (i)), .int (nI (o)), .int (nI (ce))] ws (fun r (_ : Unit) => r = nI (cc (t * 48 + i * 4 + o))) (fun (_ : Unit) => (((ws.set p_led (a_led, .inr (3, [.ref a_itl, .ref a_cents, x_led_2, x_led_3, .ref a_cc, .ref a_fx, x_led_6, x_led_7, x_led_8, .int (nI ((if fx (t * 48 + i * 4 + o) = true then fq else fq + 1)))]))).set p_fx (a_fx, eZ y 1152 (vf_upd fx (t * 48 + i * 4 + o) true))).set p_cc (a_cc, eN y 1152 (vf_upd cc (t * 48 + i * 4 + o) (ce))))) := by
  refine g_met_i (cc := cX6_fix) (maxL := 6) (by decide) rfl (Nat.le_of_ble_eq_true rfl) ?_
  intro p e s m below meth c A hx hb hml hr hts hown hnm hlocks hE hP hD hS hA ls hl
  have hown : s.vm.findClass RX6 = some m.cls := hown
  have hl : lv_has ls 6 [(0, .ref a_off), (1, .int (nI (t))), (2, .int (nI (i))), (3, .int (nI (o))), (4, .int (nI (ce)))] := hl
  have in_RX6 := in_c_X6_fix_RX6
  refine lv_aload_n hx hb dX6_fix_0 rfl (lv_at hl 0 rfl) ?_
  refine lv_iload_n hx hb dX6_fix_1 rfl (lv_at hl 1 rfl) ?_
  refine gc_V_v (As := [.int (nI (t))]) (rest := []) (c_X6_requirePublished l f0_off (rq_lt ht (by omega))) ⟨hx, hb, hml, hown, hts⟩ (cwV 1 hts gX6_fix_X6_requirePublished rfl rfl rfl (by decide +kernel) ⟨Nat.le_of_ble_eq_true rfl, Nat.le_of_ble_eq_true rfl⟩) hE hP hD hS hA _ f0_off rfl rfl rfl rfl hl.1 (Nat.le_of_ble_eq_true rfl) dX6_fix_2 ⟨Nat.le_of_ble_eq_true rfl, Nat.le_of_ble_eq_true rfl⟩ (fun u_2 H locs hP hD hS q_2 => ?_)
  refine lv_aload_n hx hb dX6_fix_5 rfl (lv_at hl 0 rfl) ?_
  refine lv_iload_n hx hb dX6_fix_6 rfl (lv_at hl 2 rfl) ?_
  refine gc_V_v (As := [.int (nI (i))]) (rest := []) (c_X6_requireItem l f0_off f0_led f0_itl (rq_lt hi (by omega))) ⟨hx, hb, hml, hown, hts⟩ (cwV 1 hts gX6_fix_X6_requireItem rfl rfl rfl (by decide +kernel) ⟨Nat.le_of_ble_eq_true rfl, Nat.le_of_ble_eq_true rfl⟩) hE hP hD hS hA _ f0_off rfl rfl rfl rfl hl.1 (Nat.le_of_ble_eq_true rfl) dX6_fix_7 ⟨Nat.le_of_ble_eq_true rfl, Nat.le_of_ble_eq_true rfl⟩ (fun u_7 H locs hP hD hS q_7 => ?_)
  refine lv_iload_n hx hb dX6_fix_10 rfl (lv_at hl 3 rfl) ?_
  refine gc_S_v (As := [.int (nI (o))]) (rest := []) (c_X6_requireOutlet l (rq_lt ho (by omega))) ⟨hx, hb, hml, hown, hts⟩ (va_cwS 1 hts gX6_fix_X6_requireOutlet rfl rfl rfl (by decide +kernel) ⟨Nat.le_of_ble_eq_true rfl, Nat.le_of_ble_eq_true rfl⟩) hE hP hD hS hA rfl rfl hl.1 (Nat.le_of_ble_eq_true rfl) dX6_fix_11 ⟨Nat.le_of_ble_eq_true rfl, Nat.le_of_ble_eq_true rfl⟩ (fun u_11 H locs hP hD hS q_11 => ?_)
  refine lv_iload hx hb dX6_fix_14 (lv_at hl 4 rfl) ?_
  refine lv_iconst (v := nI 1) hx hb dX6_fix_16 (by decide) ?_
  refine lv_ldc (v := 100000) hx hb hown (hts (.constant RX6 89 (100000)) (by decide +kernel)) dX6_fix_17 ?_
  rw [show (100000 : Int32) = nI 100000 from by decide]
  refine gc_S_v (As := [.int (nI (ce)), .int (nI (1)), .int (nI (100000))]) (rest := []) (c_X6_requireRange l (rq_rg hce kce (by decide))) ⟨hx, hb, hml, hown, hts⟩ (va_cwS 3 hts gX6_fix_X6_requireRange rfl rfl rfl (by decide +kernel) ⟨Nat.le_of_ble_eq_true rfl, Nat.le_of_ble_eq_true rfl⟩) hE hP hD hS hA rfl rfl hl.1 (Nat.le_of_ble_eq_true rfl) dX6_fix_19 ⟨Nat.le_of_ble_eq_true rfl, Nat.le_of_ble_eq_true rfl⟩ (fun u_19 H locs hP hD hS q_19 => ?_)
  refine lv_iload_n hx hb dX6_fix_22 rfl (lv_at hl 2 rfl) ?_
  refine lv_iload_n hx hb dX6_fix_23 rfl (lv_at hl 3 rfl) ?_
  refine lv_iload_n hx hb dX6_fix_24 rfl (lv_at hl 1 rfl) ?_
  refine gc_S_i (As := [.int (nI (i)), .int (nI (o)), .int (nI (t))]) (rest := []) (c_X6_slotOf l) ⟨hx, hb, hml, hown, hts⟩ (va_cwS 3 hts gX6_fix_X6_slotOf rfl rfl rfl (by decide +kernel) ⟨Nat.le_of_ble_eq_true rfl, Nat.le_of_ble_eq_true rfl⟩) hE hP hD hS hA rfl rfl hl.1 (Nat.le_of_ble_eq_true rfl) dX6_fix_25 ⟨Nat.le_of_ble_eq_true rfl, Nat.le_of_ble_eq_true rfl⟩ (fun r_25 u_25 H locs hP hD hS q_25 => ?_)
  subst q_25
  refine lv_istore (lv' := [(5, .int (nI (t * 48 + i * 4 + o))), (0, .ref a_off), (1, .int (nI (t))), (2, .int (nI (i))), (3, .int (nI (o))), (4, .int (nI (ce)))]) hx hb dX6_fix_28 hl (by decide) rfl (fun ls hl => ?_)
  refine lv_aload_n hx hb dX6_fix_30 rfl (lv_at hl 1 rfl) ?_
  refine lv_iload hx hb dX6_fix_31 (lv_at hl 0 rfl) ?_
  refine gc_V_v (As := [.int (nI (t * 48 + i * 4 + o))]) (rest := []) (c_X6_requireQuote l f0_off f0_led f0_cents b_cents (by omega) hq) ⟨hx, hb, hml, hown, hts⟩ (cwV 1 hts gX6_fix_X6_requireQuote rfl rfl rfl (by decide +kernel) ⟨Nat.le_of_ble_eq_true rfl, Nat.le_of_ble_eq_true rfl⟩) hE hP hD hS hA _ f0_off rfl rfl rfl rfl hl.1 (Nat.le_of_ble_eq_true rfl) dX6_fix_33 ⟨Nat.le_of_ble_eq_true rfl, Nat.le_of_ble_eq_true rfl⟩ (fun u_33 H locs hP hD hS q_33 => ?_)
  refine lv_aload_n hx hb dX6_fix_36 rfl (lv_at hl 1 rfl) ?_
  refine va_get (D := D) (ci := 7) (v := .ref a_led) (C := RX6) (T := TX6) (N := 8) hx hb hts in_RX6 hown hE.1 (gv1 hP f0_off) 0 rfl rfl 0 (by decide) (hts (.fieldLink RX6 12 "BasketryOffice" "ledger" "LBasketryOffice$Ledger;") (by decide +kernel)) (fun _ h9 => h9) rfl dX6_fix_37 ?_
  refine lv_iload hx hb dX6_fix_40 (lv_at hl 0 rfl) ?_
  refine lv_iload hx hb dX6_fix_42 (lv_at hl 5 rfl) ?_
  refine gc_V_i (As := [.int (nI (t * 48 + i * 4 + o)), .int (nI (ce))]) (rest := []) (c_X2_putFix l f0_led f0_cc f0_fx b_cc (by omega) hdis.1) ⟨hx, hb, hml, hown, hts⟩ (cwV 2 hts gX6_fix_X2_putFix rfl rfl rfl (by decide +kernel) ⟨Nat.le_of_ble_eq_true rfl, Nat.le_of_ble_eq_true rfl⟩) hE hP hD hS hA _ f0_led rfl rfl rfl rfl hl.1 (Nat.le_of_ble_eq_true rfl) dX6_fix_44 ⟨Nat.le_of_ble_eq_true rfl, Nat.le_of_ble_eq_true rfl⟩ (fun r_44 u_44 H locs hP hD hS q_44 => ?_)
  subst q_44
  have f_off := g_ne (x := (a_cc, eN y 1152 (vf_upd cc (t * 48 + i * 4 + o) (ce)))) (g_kne f0_cc f0_off (Nat.ne_of_beq_eq_false rfl)) (g_ne (x := (a_fx, eZ y 1152 (vf_upd fx (t * 48 + i * 4 + o) (true)))) (g_kne f0_fx f0_off (Nat.ne_of_beq_eq_false rfl)) (g_ne (x := (a_led, .inr (3, [.ref a_itl, .ref a_cents, x_led_2, x_led_3, .ref a_cc, .ref a_fx, x_led_6, x_led_7, x_led_8, .int (nI ((if fx (t * 48 + i * 4 + o) = true then fq else fq + 1)))]))) (g_kne f0_led f0_off (Nat.ne_of_beq_eq_false rfl)) (f0_off)))
  have f_led := g_ne (x := (a_cc, eN y 1152 (vf_upd cc (t * 48 + i * 4 + o) (ce)))) (g_kne f0_cc f0_led (Nat.ne_of_beq_eq_false rfl)) (g_ne (x := (a_fx, eZ y 1152 (vf_upd fx (t * 48 + i * 4 + o) (true)))) (g_kne f0_fx f0_led (Nat.ne_of_beq_eq_false rfl)) (g_eq (x := (a_led, .inr (3, [.ref a_itl, .ref a_cents, x_led_2, x_led_3, .ref a_cc, .ref a_fx, x_led_6, x_led_7, x_led_8, .int (nI ((if fx (t * 48 + i * 4 + o) = true then fq else fq + 1)))]))) (f0_led)))
  have f_itl := g_ne (x := (a_cc, eN y 1152 (vf_upd cc (t * 48 + i * 4 + o) (ce)))) (g_kne f0_cc f0_itl (Nat.ne_of_beq_eq_false rfl)) (g_ne (x := (a_fx, eZ y 1152 (vf_upd fx (t * 48 + i * 4 + o) (true)))) (g_kne f0_fx f0_itl (Nat.ne_of_beq_eq_false rfl)) (g_ne (x := (a_led, .inr (3, [.ref a_itl, .ref a_cents, x_led_2, x_led_3, .ref a_cc, .ref a_fx, x_led_6, x_led_7, x_led_8, .int (nI ((if fx (t * 48 + i * 4 + o) = true then fq else fq + 1)))]))) (g_kne f0_led f0_itl (Nat.ne_of_beq_eq_false rfl)) (f0_itl)))
  have f_cents := g_ne (x := (a_cc, eN y 1152 (vf_upd cc (t * 48 + i * 4 + o) (ce)))) (Ne.symm hdis.2.1) (g_ne (x := (a_fx, eZ y 1152 (vf_upd fx (t * 48 + i * 4 + o) (true)))) (Ne.symm hdis.2.2) (g_ne (x := (a_led, .inr (3, [.ref a_itl, .ref a_cents, x_led_2, x_led_3, .ref a_cc, .ref a_fx, x_led_6, x_led_7, x_led_8, .int (nI ((if fx (t * 48 + i * 4 + o) = true then fq else fq + 1)))]))) (g_kne f0_led f0_cents (Nat.ne_of_beq_eq_false rfl)) (f0_cents)))
  have f_cc := g_eq (x := (a_cc, eN y 1152 (vf_upd cc (t * 48 + i * 4 + o) (ce)))) (g_ne (x := (a_fx, eZ y 1152 (vf_upd fx (t * 48 + i * 4 + o) (true)))) (Ne.symm hdis.1) (g_ne (x := (a_led, .inr (3, [.ref a_itl, .ref a_cents, x_led_2, x_led_3, .ref a_cc, .ref a_fx, x_led_6, x_led_7, x_led_8, .int (nI ((if fx (t * 48 + i * 4 + o) = true then fq else fq + 1)))]))) (g_kne f0_led f0_cc (Nat.ne_of_beq_eq_false rfl)) (f0_cc)))
  have f_fx := g_ne (x := (a_cc, eN y 1152 (vf_upd cc (t * 48 + i * 4 + o) (ce)))) hdis.1 (g_eq (x := (a_fx, eZ y 1152 (vf_upd fx (t * 48 + i * 4 + o) (true)))) (g_ne (x := (a_led, .inr (3, [.ref a_itl, .ref a_cents, x_led_2, x_led_3, .ref a_cc, .ref a_fx, x_led_6, x_led_7, x_led_8, .int (nI ((if fx (t * 48 + i * 4 + o) = true then fq else fq + 1)))]))) (g_kne f0_led f0_fx (Nat.ne_of_beq_eq_false rfl)) (f0_fx)))
  refine g_iret hx hb hr hlocks () dX6_fix_47 hS hP hD ?_
  exact rfl

theorem inx_x0_X6_spend_137 : ∀ w ∈ (vx_atS RX6 137 "java/lang/IndexOutOfBoundsException" ["java/lang/RuntimeException", "java/lang/Exception"]).filter goodWord, w ∈ wsX6_spend := by decide +kernel
set_option maxHeartbeats 4000000 in
set_option maxRecDepth 100000 in
theorem x0_X6_spend (l : Launch) {D : va_G} {y : Nat → Nat} {ws : va_W} {x_off_2 : Value} {x_off_3 : Value} {x_off_4 : Value} {x_off_5 : Value} {x_off_6 : Value} {x_spd_1 : Value} {x_spd_2 : Value} {p_off p_spd p_told a_off a_spd a_told a_led : Nat} {told : Nat → Nat} {hh g ce : Int32} {nw : Nat} (f0_off : ws[p_off]? = some (a_off, .inr (7, [.ref a_led, .ref a_spd, x_off_2, x_off_3, x_off_4, x_off_5, x_off_6, .int (nI (nw))]))) (f0_spd : ws[p_spd]? = some (a_spd, .inr (5, [.ref a_told, x_spd_1, x_spd_2]))) (f0_told : ws[p_told]? = some (a_told, eN y 12 told)) (b_told : ∀ k, told k ≤ 1000000000) (hfl : l.stackTraces = false)   (hbad : hh < 0 ∨ nI 3 ≤ hh) : gMxi l yX6_spend wsX6_spend ({ frames := 6, cells := 1, slots := 6, locals := 100 }) D y [.ref a_off, .int (hh), .int (g), .int (ce)] ws "java/lang/IndexOutOfBoundsException" := by
  refine g_metx_i (cc := cX6_spend) (maxL := 4) (by decide) rfl (Nat.le_of_ble_eq_true rfl) ?_
  intro p e s m below meth c A hx hb hml hr hts hown hnm hlocks hE hP hD hS hA hex hX ls hl
  have hown : s.vm.findClass RX6 = some m.cls := hown
  have hl : lv_has ls 4 [(0, .ref a_off), (1, .int (hh)), (2, .int (g)), (3, .int (ce))] := hl
  refine lv_iload_n hx hb dX6_spend_0 rfl (lv_at hl 1 rfl) ?_
  refine lv_if_lt (tgt := 9) hx hb dX6_spend_1 (by decide) (fun c_1 => ?_) (fun c_1 => ?_)
  · exact g_throwS hx hb hfl (cls := "java/lang/IndexOutOfBoundsException") (text := "no such household") (names := ["java/lang/RuntimeException", "java/lang/Exception"]) (ik := 133) (is := 135) (ic := 137) hown (by decide +kernel) htex_137 (hts (.classLink RX6 133 "java/lang/IndexOutOfBoundsException") (by decide +kernel)) (hts (.initialized "java/lang/IndexOutOfBoundsException") (by decide +kernel)) (by decide +kernel) (fun w hw => hts w (inx_x0_X6_spend_137 w hw)) hat2_137 (vx_c (va_Nw.use rfl (hE.2 _ hnest_137)) (vx_c (va_Nw.use rfl (hE.2 _ hnest_r)) (vx_c (va_Nw.use rfl (hE.2 _ hnest_e)) (vx_c (va_Nw.use rfl (hE.2 _ hnest_t)) vx_n)))) hgood_137 hX hS hP hD (hl.1.trans hml.symm) hex hlocks dX6_spend_9 dX6_spend_12 dX6_spend_13 dX6_spend_15 dX6_spend_18 (Nat.le_of_ble_eq_true rfl) (Nat.le_of_ble_eq_true rfl) (Nat.le_of_ble_eq_true rfl) (Nat.le_of_ble_eq_true rfl) (Nat.le_of_ble_eq_true rfl) (Nat.le_of_ble_eq_true rfl)
  · refine lv_iload_n hx hb dX6_spend_4 rfl (lv_at hl 1 rfl) ?_
    refine lv_iconst (v := nI 3) hx hb dX6_spend_5 (by decide) ?_
    refine lv_icmp_lt (tgt := 19) hx hb dX6_spend_6 (by decide) (fun c_6 => absurd c_6 (Int32.not_lt.mpr (hbad.resolve_left c_1))) (fun c_6 => ?_)
    exact g_throwS hx hb hfl (cls := "java/lang/IndexOutOfBoundsException") (text := "no such household") (names := ["java/lang/RuntimeException", "java/lang/Exception"]) (ik := 133) (is := 135) (ic := 137) hown (by decide +kernel) htex_137 (hts (.classLink RX6 133 "java/lang/IndexOutOfBoundsException") (by decide +kernel)) (hts (.initialized "java/lang/IndexOutOfBoundsException") (by decide +kernel)) (by decide +kernel) (fun w hw => hts w (inx_x0_X6_spend_137 w hw)) hat2_137 (vx_c (va_Nw.use rfl (hE.2 _ hnest_137)) (vx_c (va_Nw.use rfl (hE.2 _ hnest_r)) (vx_c (va_Nw.use rfl (hE.2 _ hnest_e)) (vx_c (va_Nw.use rfl (hE.2 _ hnest_t)) vx_n)))) hgood_137 hX hS hP hD (hl.1.trans hml.symm) hex hlocks dX6_spend_9 dX6_spend_12 dX6_spend_13 dX6_spend_15 dX6_spend_18 (Nat.le_of_ble_eq_true rfl) (Nat.le_of_ble_eq_true rfl) (Nat.le_of_ble_eq_true rfl) (Nat.le_of_ble_eq_true rfl) (Nat.le_of_ble_eq_true rfl) (Nat.le_of_ble_eq_true rfl)

set_option maxHeartbeats 4000000 in
set_option maxRecDepth 100000 in
theorem x1_X6_spend (l : Launch) {D : va_G} {y : Nat → Nat} {ws : va_W} {x_off_2 : Value} {x_off_3 : Value} {x_off_4 : Value} {x_off_5 : Value} {x_off_6 : Value} {x_spd_1 : Value} {x_spd_2 : Value} {p_off p_spd p_told a_off a_spd a_told a_led : Nat} {told : Nat → Nat} {hh : Nat} {g ce : Int32} {nw : Nat} (f0_off : ws[p_off]? = some (a_off, .inr (7, [.ref a_led, .ref a_spd, x_off_2, x_off_3, x_off_4, x_off_5, x_off_6, .int (nI (nw))]))) (f0_spd : ws[p_spd]? = some (a_spd, .inr (5, [.ref a_told, x_spd_1, x_spd_2]))) (f0_told : ws[p_told]? = some (a_told, eN y 12 told)) (b_told : ∀ k, told k ≤ 1000000000) (hfl : l.stackTraces = false)  (hhh : hh < 3) (hbad : g < 0 ∨ nI 4 ≤ g) : gMxi l yX6_spend wsX6_spend ({ frames := 7, cells := 1, slots := 6, locals := 120 }) D y [.ref a_off, .int (nI (hh)), .int (g), .int (ce)] ws "java/lang/IndexOutOfBoundsException" := by
  refine g_metx_i (cc := cX6_spend) (maxL := 4) (by decide) rfl (Nat.le_of_ble_eq_true rfl) ?_
  intro p e s m below meth c A hx hb hml hr hts hown hnm hlocks hE hP hD hS hA hex hX ls hl
  have hown : s.vm.findClass RX6 = some m.cls := hown
  have hl : lv_has ls 4 [(0, .ref a_off), (1, .int (nI (hh))), (2, .int (g)), (3, .int (ce))] := hl
  refine lv_iload_n hx hb dX6_spend_0 rfl (lv_at hl 1 rfl) ?_
  refine g_if_lt (tgt := 9) hx hb (by omega) dX6_spend_1 (by decide) ?_
  refine lv_iload_n hx hb dX6_spend_4 rfl (lv_at hl 1 rfl) ?_
  refine lv_iconst (v := nI 3) hx hb dX6_spend_5 (by decide) ?_
  refine g_icmp_lt (tgt := 19) hx hb (by omega) (by omega) dX6_spend_6 (by decide) (fun c_6 => ?_) (fun c_6 => absurd c_6 (by omega))
  refine lv_iload_n hx hb dX6_spend_19 rfl (lv_at hl 2 rfl) ?_
  exact gcx_S_v (As := [.int (g)]) (rest := []) (x_X6_requireGroup l hfl hbad) ⟨hx, hb, hml, hown, hts⟩ (va_cwS 1 hts gX6_spend_X6_requireGroup rfl rfl rfl (by decide +kernel) ⟨Nat.le_of_ble_eq_true rfl, Nat.le_of_ble_eq_true rfl⟩) hE hX hex hlocks hP hD hS hA rfl rfl hl.1 (Nat.le_of_ble_eq_true rfl) dX6_spend_20 ⟨Nat.le_of_ble_eq_true rfl, Nat.le_of_ble_eq_true rfl⟩ (Nat.le_of_ble_eq_true rfl) (Nat.le_of_ble_eq_true rfl)

set_option maxHeartbeats 4000000 in
set_option maxRecDepth 100000 in
theorem x2_X6_spend (l : Launch) {D : va_G} {y : Nat → Nat} {ws : va_W} {x_off_2 : Value} {x_off_3 : Value} {x_off_4 : Value} {x_off_5 : Value} {x_off_6 : Value} {x_spd_1 : Value} {x_spd_2 : Value} {p_off p_spd p_told a_off a_spd a_told a_led : Nat} {told : Nat → Nat} {hh g : Nat} {ce : Int32} {nw : Nat} (f0_off : ws[p_off]? = some (a_off, .inr (7, [.ref a_led, .ref a_spd, x_off_2, x_off_3, x_off_4, x_off_5, x_off_6, .int (nI (nw))]))) (f0_spd : ws[p_spd]? = some (a_spd, .inr (5, [.ref a_told, x_spd_1, x_spd_2]))) (f0_told : ws[p_told]? = some (a_told, eN y 12 told)) (b_told : ∀ k, told k ≤ 1000000000) (hfl : l.stackTraces = false)  (hhh : hh < 3) (hg : g < 4) (hbad : ce < nI 0 ∨ nI 1000000000 < ce) : gMxi l yX6_spend wsX6_spend ({ frames := 7, cells := 1, slots := 6, locals := 122 }) D y [.ref a_off, .int (nI (hh)), .int (nI (g)), .int (ce)] ws "java/lang/IllegalArgumentException" := by
  refine g_metx_i (cc := cX6_spend) (maxL := 4) (by decide) rfl (Nat.le_of_ble_eq_true rfl) ?_
  intro p e s m below meth c A hx hb hml hr hts hown hnm hlocks hE hP hD hS hA hex hX ls hl
  have hown : s.vm.findClass RX6 = some m.cls := hown
  have hl : lv_has ls 4 [(0, .ref a_off), (1, .int (nI (hh))), (2, .int (nI (g))), (3, .int (ce))] := hl
  refine lv_iload_n hx hb dX6_spend_0 rfl (lv_at hl 1 rfl) ?_
  refine g_if_lt (tgt := 9) hx hb (by omega) dX6_spend_1 (by decide) ?_
  refine lv_iload_n hx hb dX6_spend_4 rfl (lv_at hl 1 rfl) ?_
  refine lv_iconst (v := nI 3) hx hb dX6_spend_5 (by decide) ?_
  refine g_icmp_lt (tgt := 19) hx hb (by omega) (by omega) dX6_spend_6 (by decide) (fun c_6 => ?_) (fun c_6 => absurd c_6 (by omega))
  refine lv_iload_n hx hb dX6_spend_19 rfl (lv_at hl 2 rfl) ?_
  refine gc_S_v (As := [.int (nI (g))]) (rest := []) (c_X6_requireGroup l (rq_lt hg (by omega))) ⟨hx, hb, hml, hown, hts⟩ (va_cwS 1 hts gX6_spend_X6_requireGroup rfl rfl rfl (by decide +kernel) ⟨Nat.le_of_ble_eq_true rfl, Nat.le_of_ble_eq_true rfl⟩) hE hP hD hS hA rfl rfl hl.1 (Nat.le_of_ble_eq_true rfl) dX6_spend_20 ⟨Nat.le_of_ble_eq_true rfl, Nat.le_of_ble_eq_true rfl⟩ (fun u_20 H locs hP hD hS q_20 => ?_)
  refine lv_iload_n hx hb dX6_spend_23 rfl (lv_at hl 3 rfl) ?_
  refine lv_iconst (v := nI 0) hx hb dX6_spend_24 (by decide) ?_
  refine lv_ldc (v := 1000000000) hx hb hown (hts (.constant RX6 138 (1000000000)) (by decide +kernel)) dX6_spend_25 ?_
  rw [show (1000000000 : Int32) = nI 1000000000 from by decide]
  exact gcx_S_v (As := [.int (ce), .int (nI (0)), .int (nI (1000000000))]) (rest := []) (x_X6_requireRange l hfl hbad) ⟨hx, hb, hml, hown, hts⟩ (va_cwS 3 hts gX6_spend_X6_requireRange rfl rfl rfl (by decide +kernel) ⟨Nat.le_of_ble_eq_true rfl, Nat.le_of_ble_eq_true rfl⟩) hE hX hex hlocks hP hD hS hA rfl rfl hl.1 (Nat.le_of_ble_eq_true rfl) dX6_spend_27 ⟨Nat.le_of_ble_eq_true rfl, Nat.le_of_ble_eq_true rfl⟩ (Nat.le_of_ble_eq_true rfl) (Nat.le_of_ble_eq_true rfl)

theorem in_c_X6_spend_RX6 : ∀ w ∈ wsX60, w ∈ wsX6_spend := by decide +kernel
set_option maxHeartbeats 4000000 in
set_option maxRecDepth 100000 in
theorem c_X6_spend (l : Launch) {D : va_G} {y : Nat → Nat} {ws : va_W} {x_off_2 : Value} {x_off_3 : Value} {x_off_4 : Value} {x_off_5 : Value} {x_off_6 : Value} {x_spd_1 : Value} {x_spd_2 : Value} {p_off p_spd p_told a_off a_spd a_told a_led : Nat} {told : Nat → Nat} {hh g ce : Nat} {nw : Nat} (f0_off : ws[p_off]? = some (a_off, .inr (7, [.ref a_led, .ref a_spd, x_off_2, x_off_3, x_off_4, x_off_5, x_off_6, .int (nI (nw))]))) (f0_spd : ws[p_spd]? = some (a_spd, .inr (5, [.ref a_told, x_spd_1, x_spd_2]))) (f0_told : ws[p_told]? = some (a_told, eN y 12 told)) (b_told : ∀ k, told k ≤ 1000000000)  (hhh : hh < 3) (hg : g < 4) (hce : 0 ≤ ce) (kce : ce ≤ 1000000000)  : gMi l yX6_spend wsX6_spend ({ frames := 1, cells := 0, slots := 0, locals := 25 }) D y [.ref a_off, .int (nI (hh)), .int (nI (g)), .int (nI (ce))] ws (fun r (_ : Unit) => r = nI (told (hh * 4 + g))) (fun (_ : Unit) => (ws.set p_told (a_told, eN y 12 (vf_upd told (hh * 4 + g) (ce))))) := by
  refine g_met_i (cc := cX6_spend) (maxL := 4) (by decide) rfl (Nat.le_of_ble_eq_true rfl) ?_
  intro p e s m below meth c A hx hb hml hr hts hown hnm hlocks hE hP hD hS hA ls hl
  have hown : s.vm.findClass RX6 = some m.cls := hown
  have hl : lv_has ls 4 [(0, .ref a_off), (1, .int (nI (hh))), (2, .int (nI (g))), (3, .int (nI (ce)))] := hl
  have in_RX6 := in_c_X6_spend_RX6
  refine lv_iload_n hx hb dX6_spend_0 rfl (lv_at hl 1 rfl) ?_
  refine g_if_lt (tgt := 9) hx hb (by omega) dX6_spend_1 (by decide) ?_
  refine lv_iload_n hx hb dX6_spend_4 rfl (lv_at hl 1 rfl) ?_
  refine lv_iconst (v := nI 3) hx hb dX6_spend_5 (by decide) ?_
  refine g_icmp_lt (tgt := 19) hx hb (by omega) (by omega) dX6_spend_6 (by decide) (fun c_6 => ?_) (fun c_6 => absurd c_6 (by omega))
  refine lv_iload_n hx hb dX6_spend_19 rfl (lv_at hl 2 rfl) ?_
  refine gc_S_v (As := [.int (nI (g))]) (rest := []) (c_X6_requireGroup l (rq_lt hg (by omega))) ⟨hx, hb, hml, hown, hts⟩ (va_cwS 1 hts gX6_spend_X6_requireGroup rfl rfl rfl (by decide +kernel) ⟨Nat.le_of_ble_eq_true rfl, Nat.le_of_ble_eq_true rfl⟩) hE hP hD hS hA rfl rfl hl.1 (Nat.le_of_ble_eq_true rfl) dX6_spend_20 ⟨Nat.le_of_ble_eq_true rfl, Nat.le_of_ble_eq_true rfl⟩ (fun u_20 H locs hP hD hS q_20 => ?_)
  refine lv_iload_n hx hb dX6_spend_23 rfl (lv_at hl 3 rfl) ?_
  refine lv_iconst (v := nI 0) hx hb dX6_spend_24 (by decide) ?_
  refine lv_ldc (v := 1000000000) hx hb hown (hts (.constant RX6 138 (1000000000)) (by decide +kernel)) dX6_spend_25 ?_
  rw [show (1000000000 : Int32) = nI 1000000000 from by decide]
  refine gc_S_v (As := [.int (nI (ce)), .int (nI (0)), .int (nI (1000000000))]) (rest := []) (c_X6_requireRange l (rq_rg hce kce (by decide))) ⟨hx, hb, hml, hown, hts⟩ (va_cwS 3 hts gX6_spend_X6_requireRange rfl rfl rfl (by decide +kernel) ⟨Nat.le_of_ble_eq_true rfl, Nat.le_of_ble_eq_true rfl⟩) hE hP hD hS hA rfl rfl hl.1 (Nat.le_of_ble_eq_true rfl) dX6_spend_27 ⟨Nat.le_of_ble_eq_true rfl, Nat.le_of_ble_eq_true rfl⟩ (fun u_27 H locs hP hD hS q_27 => ?_)
  refine lv_aload_n hx hb dX6_spend_30 rfl (lv_at hl 0 rfl) ?_
  refine va_get (D := D) (ci := 7) (v := .ref a_spd) (C := RX6) (T := TX6) (N := 8) hx hb hts in_RX6 hown hE.1 (gv1 hP f0_off) 0 rfl rfl 1 (by decide) (hts (.fieldLink RX6 19 "BasketryOffice" "spendings" "LBasketryOffice$Spendings;") (by decide +kernel)) (fun _ h9 => h9) rfl dX6_spend_31 ?_
  refine lv_iload_n hx hb dX6_spend_34 rfl (lv_at hl 1 rfl) ?_
  refine lv_iload_n hx hb dX6_spend_35 rfl (lv_at hl 2 rfl) ?_
  refine lv_iload_n hx hb dX6_spend_36 rfl (lv_at hl 3 rfl) ?_
  refine gc_V_i (As := [.int (nI (hh)), .int (nI (g)), .int (nI (ce))]) (rest := []) (c_X4_tell l f0_spd f0_told b_told (by omega) (by omega)) ⟨hx, hb, hml, hown, hts⟩ (cwV 3 hts gX6_spend_X4_tell rfl rfl rfl (by decide +kernel) ⟨Nat.le_of_ble_eq_true rfl, Nat.le_of_ble_eq_true rfl⟩) hE hP hD hS hA _ f0_spd rfl rfl rfl rfl hl.1 (Nat.le_of_ble_eq_true rfl) dX6_spend_37 ⟨Nat.le_of_ble_eq_true rfl, Nat.le_of_ble_eq_true rfl⟩ (fun r_37 u_37 H locs hP hD hS q_37 => ?_)
  subst q_37
  have f_off := g_ne (x := (a_told, eN y 12 (vf_upd told ((hh) * 4 + (g)) (ce)))) (g_kne f0_told f0_off (Nat.ne_of_beq_eq_false rfl)) (f0_off)
  have f_spd := g_ne (x := (a_told, eN y 12 (vf_upd told ((hh) * 4 + (g)) (ce)))) (g_kne f0_told f0_spd (Nat.ne_of_beq_eq_false rfl)) (f0_spd)
  have f_told := g_eq (x := (a_told, eN y 12 (vf_upd told ((hh) * 4 + (g)) (ce)))) (f0_told)
  refine g_iret hx hb hr hlocks () dX6_spend_40 hS hP hD ?_
  exact rfl

theorem in_c_X6_adopt_RX6 : ∀ w ∈ wsX60, w ∈ wsX6_adopt := by decide +kernel
set_option maxHeartbeats 4000000 in
set_option maxRecDepth 100000 in
theorem c_X6_adopt (l : Launch) {D : va_G} {y : Nat → Nat} {ws : va_W} {x_off_2 : Value} {x_off_3 : Value} {x_off_4 : Value} {x_off_5 : Value} {x_off_6 : Value} {x_spd_2 : Value} {p_off p_spd p_told p_adp a_off a_spd a_told a_adp a_led : Nat} {told : Nat → Nat} {adp : Nat → Nat} {nw : Nat} (f0_off : ws[p_off]? = some (a_off, .inr (7, [.ref a_led, .ref a_spd, x_off_2, x_off_3, x_off_4, x_off_5, x_off_6, .int (nI (nw))]))) (f0_spd : ws[p_spd]? = some (a_spd, .inr (5, [.ref a_told, .ref a_adp, x_spd_2]))) (f0_told : ws[p_told]? = some (a_told, eN y 12 told)) (f0_adp : ws[p_adp]? = some (a_adp, eN y 12 adp)) (b_told : ∀ k, told k ≤ 1000000000) (b_adp : ∀ k, adp k ≤ 1000000000)   (hdis : p_told ≠ p_adp) : gMl l yX6_adopt wsX6_adopt ({ frames := 1, cells := 0, slots := 0, locals := 23 }) D y [.ref a_off] ws (fun r (_ : Unit) => r = lN (tS told 12)) (fun (_ : Unit) => (ws.set p_adp (a_adp, eN y 12 (adF told adp 12)))) := by
  refine g_met_l (cc := cX6_adopt) (maxL := 1) (by decide) rfl (Nat.le_of_ble_eq_true rfl) ?_
  intro p e s m below meth c A hx hb hml hr hts hown hnm hlocks hE hP hD hS hA ls hl
  have hown : s.vm.findClass RX6 = some m.cls := hown
  have hl : lv_has ls 1 [(0, .ref a_off)] := hl
  have in_RX6 := in_c_X6_adopt_RX6
  refine lv_aload_n hx hb dX6_adopt_0 rfl (lv_at hl 0 rfl) ?_
  refine va_get (D := D) (ci := 7) (v := .ref a_spd) (C := RX6) (T := TX6) (N := 8) hx hb hts in_RX6 hown hE.1 (gv1 hP f0_off) 0 rfl rfl 1 (by decide) (hts (.fieldLink RX6 19 "BasketryOffice" "spendings" "LBasketryOffice$Spendings;") (by decide +kernel)) (fun _ h9 => h9) rfl dX6_adopt_1 ?_
  refine gc_V_l (As := []) (rest := []) (c_X4_adoptAll l f0_spd f0_told f0_adp b_told b_adp (by omega)) ⟨hx, hb, hml, hown, hts⟩ (cwV 0 hts gX6_adopt_X4_adoptAll rfl rfl rfl (by decide +kernel) ⟨Nat.le_of_ble_eq_true rfl, Nat.le_of_ble_eq_true rfl⟩) hE hP hD hS hA _ f0_spd rfl rfl rfl rfl hl.1 (Nat.le_of_ble_eq_true rfl) dX6_adopt_4 ⟨Nat.le_of_ble_eq_true rfl, Nat.le_of_ble_eq_true rfl⟩ (fun r_4 u_4 H locs hP hD hS q_4 => ?_)
  subst q_4
  have f_off := g_ne (x := (a_adp, eN y 12 (adF told adp 12))) (g_kne f0_adp f0_off (Nat.ne_of_beq_eq_false rfl)) (f0_off)
  have f_spd := g_ne (x := (a_adp, eN y 12 (adF told adp 12))) (g_kne f0_adp f0_spd (Nat.ne_of_beq_eq_false rfl)) (f0_spd)
  have f_told := g_ne (x := (a_adp, eN y 12 (adF told adp 12))) (Ne.symm hdis) (f0_told)
  have f_adp := g_eq (x := (a_adp, eN y 12 (adF told adp 12))) (f0_adp)
  refine g_lret hx hb hr hlocks () dX6_adopt_7 hS hP hD ?_
  exact rfl

set_option maxHeartbeats 4000000 in
set_option maxRecDepth 100000 in
theorem x0_X6_isMatched (l : Launch) {D : va_G} {y : Nat → Nat} {ws : va_W} {x_off_1 : Value} {x_off_3 : Value} {x_off_4 : Value} {x_off_5 : Value} {x_off_6 : Value} {x_led_1 : Value} {x_led_2 : Value} {x_led_3 : Value} {x_led_4 : Value} {x_led_5 : Value} {x_led_6 : Value} {x_led_7 : Value} {x_led_8 : Value} {x_led_9 : Value} {x_itl_0 : Value} {p_off p_led p_itl a_off a_led a_itl a_ita a_ser : Nat} {i o t : Int32} {nw n : Nat} (f0_off : ws[p_off]? = some (a_off, .inr (7, [.ref a_led, x_off_1, .ref a_ser, x_off_3, x_off_4, x_off_5, x_off_6, .int (nI (nw))]))) (f0_led : ws[p_led]? = some (a_led, .inr (3, [.ref a_itl, x_led_1, x_led_2, x_led_3, x_led_4, x_led_5, x_led_6, x_led_7, x_led_8, x_led_9]))) (f0_itl : ws[p_itl]? = some (a_itl, .inr (0, [x_itl_0, .ref a_ita, .int (nI (n))]))) (hfl : l.stackTraces = false) (hw : nw ≤ 24) (hn : n ≤ 12)  (hbad : i < 0 ∨ nI n ≤ i) : gMxi l yX6_isMatched wsX6_isMatched ({ frames := 7, cells := 1, slots := 6, locals := 121 }) D y [.ref a_off, .int (i), .int (o), .int (t)] ws "java/lang/IndexOutOfBoundsException" := by
  refine g_metx_z (cc := cX6_isMatched) (maxL := 4) (by decide) rfl (Nat.le_of_ble_eq_true rfl) ?_
  intro p e s m below meth c A hx hb hml hr hts hown hnm hlocks hE hP hD hS hA hex hX ls hl
  have hown : s.vm.findClass RX6 = some m.cls := hown
  have hl : lv_has ls 4 [(0, .ref a_off), (1, .int (i)), (2, .int (o)), (3, .int (t))] := hl
  refine lv_aload_n hx hb dX6_isMatched_0 rfl (lv_at hl 0 rfl) ?_
  refine lv_iload_n hx hb dX6_isMatched_1 rfl (lv_at hl 1 rfl) ?_
  exact gcx_V_v (As := [.int (i)]) (rest := []) (x_X6_requireItem l f0_off f0_led f0_itl hfl hbad) ⟨hx, hb, hml, hown, hts⟩ (cwV 1 hts gX6_isMatched_X6_requireItem rfl rfl rfl (by decide +kernel) ⟨Nat.le_of_ble_eq_true rfl, Nat.le_of_ble_eq_true rfl⟩) hE hX hex hlocks hP hD hS hA _ f0_off rfl rfl rfl rfl hl.1 (Nat.le_of_ble_eq_true rfl) dX6_isMatched_2 ⟨Nat.le_of_ble_eq_true rfl, Nat.le_of_ble_eq_true rfl⟩ (Nat.le_of_ble_eq_true rfl) (Nat.le_of_ble_eq_true rfl)

set_option maxHeartbeats 4000000 in
set_option maxRecDepth 100000 in
theorem x1_X6_isMatched (l : Launch) {D : va_G} {y : Nat → Nat} {ws : va_W} {x_off_1 : Value} {x_off_3 : Value} {x_off_4 : Value} {x_off_5 : Value} {x_off_6 : Value} {x_led_1 : Value} {x_led_2 : Value} {x_led_3 : Value} {x_led_4 : Value} {x_led_5 : Value} {x_led_6 : Value} {x_led_7 : Value} {x_led_8 : Value} {x_led_9 : Value} {x_itl_0 : Value} {p_off p_led p_itl a_off a_led a_itl a_ita a_ser : Nat} {i : Nat} {o t : Int32} {nw n : Nat} (f0_off : ws[p_off]? = some (a_off, .inr (7, [.ref a_led, x_off_1, .ref a_ser, x_off_3, x_off_4, x_off_5, x_off_6, .int (nI (nw))]))) (f0_led : ws[p_led]? = some (a_led, .inr (3, [.ref a_itl, x_led_1, x_led_2, x_led_3, x_led_4, x_led_5, x_led_6, x_led_7, x_led_8, x_led_9]))) (f0_itl : ws[p_itl]? = some (a_itl, .inr (0, [x_itl_0, .ref a_ita, .int (nI (n))]))) (hfl : l.stackTraces = false) (hw : nw ≤ 24) (hn : n ≤ 12) (hi : i < n) (hbad : o < 0 ∨ nI 4 ≤ o) : gMxi l yX6_isMatched wsX6_isMatched ({ frames := 7, cells := 1, slots := 6, locals := 120 }) D y [.ref a_off, .int (nI (i)), .int (o), .int (t)] ws "java/lang/IndexOutOfBoundsException" := by
  refine g_metx_z (cc := cX6_isMatched) (maxL := 4) (by decide) rfl (Nat.le_of_ble_eq_true rfl) ?_
  intro p e s m below meth c A hx hb hml hr hts hown hnm hlocks hE hP hD hS hA hex hX ls hl
  have hown : s.vm.findClass RX6 = some m.cls := hown
  have hl : lv_has ls 4 [(0, .ref a_off), (1, .int (nI (i))), (2, .int (o)), (3, .int (t))] := hl
  refine lv_aload_n hx hb dX6_isMatched_0 rfl (lv_at hl 0 rfl) ?_
  refine lv_iload_n hx hb dX6_isMatched_1 rfl (lv_at hl 1 rfl) ?_
  refine gc_V_v (As := [.int (nI (i))]) (rest := []) (c_X6_requireItem l f0_off f0_led f0_itl (rq_lt hi (by omega))) ⟨hx, hb, hml, hown, hts⟩ (cwV 1 hts gX6_isMatched_X6_requireItem rfl rfl rfl (by decide +kernel) ⟨Nat.le_of_ble_eq_true rfl, Nat.le_of_ble_eq_true rfl⟩) hE hP hD hS hA _ f0_off rfl rfl rfl rfl hl.1 (Nat.le_of_ble_eq_true rfl) dX6_isMatched_2 ⟨Nat.le_of_ble_eq_true rfl, Nat.le_of_ble_eq_true rfl⟩ (fun u_2 H locs hP hD hS q_2 => ?_)
  refine lv_iload_n hx hb dX6_isMatched_5 rfl (lv_at hl 2 rfl) ?_
  exact gcx_S_v (As := [.int (o)]) (rest := []) (x_X6_requireOutlet l hfl hbad) ⟨hx, hb, hml, hown, hts⟩ (va_cwS 1 hts gX6_isMatched_X6_requireOutlet rfl rfl rfl (by decide +kernel) ⟨Nat.le_of_ble_eq_true rfl, Nat.le_of_ble_eq_true rfl⟩) hE hX hex hlocks hP hD hS hA rfl rfl hl.1 (Nat.le_of_ble_eq_true rfl) dX6_isMatched_6 ⟨Nat.le_of_ble_eq_true rfl, Nat.le_of_ble_eq_true rfl⟩ (Nat.le_of_ble_eq_true rfl) (Nat.le_of_ble_eq_true rfl)

set_option maxHeartbeats 4000000 in
set_option maxRecDepth 100000 in
theorem x2_X6_isMatched (l : Launch) {D : va_G} {y : Nat → Nat} {ws : va_W} {x_off_1 : Value} {x_off_3 : Value} {x_off_4 : Value} {x_off_5 : Value} {x_off_6 : Value} {x_led_1 : Value} {x_led_2 : Value} {x_led_3 : Value} {x_led_4 : Value} {x_led_5 : Value} {x_led_6 : Value} {x_led_7 : Value} {x_led_8 : Value} {x_led_9 : Value} {x_itl_0 : Value} {p_off p_led p_itl a_off a_led a_itl a_ita a_ser : Nat} {i o : Nat} {t : Int32} {nw n : Nat} (f0_off : ws[p_off]? = some (a_off, .inr (7, [.ref a_led, x_off_1, .ref a_ser, x_off_3, x_off_4, x_off_5, x_off_6, .int (nI (nw))]))) (f0_led : ws[p_led]? = some (a_led, .inr (3, [.ref a_itl, x_led_1, x_led_2, x_led_3, x_led_4, x_led_5, x_led_6, x_led_7, x_led_8, x_led_9]))) (f0_itl : ws[p_itl]? = some (a_itl, .inr (0, [x_itl_0, .ref a_ita, .int (nI (n))]))) (hfl : l.stackTraces = false) (hw : nw ≤ 24) (hn : n ≤ 12) (hi : i < n) (ho : o < 4) (hbad : t < 0 ∨ nI nw ≤ t) : gMxi l yX6_isMatched wsX6_isMatched ({ frames := 7, cells := 1, slots := 6, locals := 121 }) D y [.ref a_off, .int (nI (i)), .int (nI (o)), .int (t)] ws "java/lang/IndexOutOfBoundsException" := by
  refine g_metx_z (cc := cX6_isMatched) (maxL := 4) (by decide) rfl (Nat.le_of_ble_eq_true rfl) ?_
  intro p e s m below meth c A hx hb hml hr hts hown hnm hlocks hE hP hD hS hA hex hX ls hl
  have hown : s.vm.findClass RX6 = some m.cls := hown
  have hl : lv_has ls 4 [(0, .ref a_off), (1, .int (nI (i))), (2, .int (nI (o))), (3, .int (t))] := hl
  refine lv_aload_n hx hb dX6_isMatched_0 rfl (lv_at hl 0 rfl) ?_
  refine lv_iload_n hx hb dX6_isMatched_1 rfl (lv_at hl 1 rfl) ?_
  refine gc_V_v (As := [.int (nI (i))]) (rest := []) (c_X6_requireItem l f0_off f0_led f0_itl (rq_lt hi (by omega))) ⟨hx, hb, hml, hown, hts⟩ (cwV 1 hts gX6_isMatched_X6_requireItem rfl rfl rfl (by decide +kernel) ⟨Nat.le_of_ble_eq_true rfl, Nat.le_of_ble_eq_true rfl⟩) hE hP hD hS hA _ f0_off rfl rfl rfl rfl hl.1 (Nat.le_of_ble_eq_true rfl) dX6_isMatched_2 ⟨Nat.le_of_ble_eq_true rfl, Nat.le_of_ble_eq_true rfl⟩ (fun u_2 H locs hP hD hS q_2 => ?_)
  refine lv_iload_n hx hb dX6_isMatched_5 rfl (lv_at hl 2 rfl) ?_
  refine gc_S_v (As := [.int (nI (o))]) (rest := []) (c_X6_requireOutlet l (rq_lt ho (by omega))) ⟨hx, hb, hml, hown, hts⟩ (va_cwS 1 hts gX6_isMatched_X6_requireOutlet rfl rfl rfl (by decide +kernel) ⟨Nat.le_of_ble_eq_true rfl, Nat.le_of_ble_eq_true rfl⟩) hE hP hD hS hA rfl rfl hl.1 (Nat.le_of_ble_eq_true rfl) dX6_isMatched_6 ⟨Nat.le_of_ble_eq_true rfl, Nat.le_of_ble_eq_true rfl⟩ (fun u_6 H locs hP hD hS q_6 => ?_)
  refine lv_aload_n hx hb dX6_isMatched_9 rfl (lv_at hl 0 rfl) ?_
  refine lv_iload_n hx hb dX6_isMatched_10 rfl (lv_at hl 3 rfl) ?_
  exact gcx_V_v (As := [.int (t)]) (rest := []) (x_X6_requirePublished l f0_off hfl hbad) ⟨hx, hb, hml, hown, hts⟩ (cwV 1 hts gX6_isMatched_X6_requirePublished rfl rfl rfl (by decide +kernel) ⟨Nat.le_of_ble_eq_true rfl, Nat.le_of_ble_eq_true rfl⟩) hE hX hex hlocks hP hD hS hA _ f0_off rfl rfl rfl rfl hl.1 (Nat.le_of_ble_eq_true rfl) dX6_isMatched_11 ⟨Nat.le_of_ble_eq_true rfl, Nat.le_of_ble_eq_true rfl⟩ (Nat.le_of_ble_eq_true rfl) (Nat.le_of_ble_eq_true rfl)

theorem in_c_X6_isMatched_RX6 : ∀ w ∈ wsX60, w ∈ wsX6_isMatched := by decide +kernel
set_option maxHeartbeats 4000000 in
set_option maxRecDepth 100000 in
theorem c_X6_isMatched (l : Launch) {D : va_G} {y : Nat → Nat} {ws : va_W} {x_off_1 : Value} {x_off_3 : Value} {x_off_4 : Value} {x_off_5 : Value} {x_off_6 : Value} {x_led_5 : Value} {x_led_8 : Value} {x_led_9 : Value} {x_itl_0 : Value} {x_ser_1 : Value} {x_ser_2 : Value} {x_ser_4 : Value} {x_ser_5 : Value} {x_ser_6 : Value} {p_off p_led p_itl p_ser p_cents p_grams p_cc p_lc p_lg p_cf p_pr a_off a_led a_itl a_ser a_cents a_grams a_cc a_lc a_lg a_cf a_pr a_ita : Nat} {cents : Nat → Nat} {grams : Nat → Nat} {cc : Nat → Nat} {lc : Nat → Nat} {lg : Nat → Nat} {cf : Nat → Bool} {pr : Nat → UInt64} {i o t nw n : Nat} {wf : Bool} (f0_off : ws[p_off]? = some (a_off, .inr (7, [.ref a_led, x_off_1, .ref a_ser, x_off_3, x_off_4, x_off_5, x_off_6, .int (nI (nw))]))) (f0_led : ws[p_led]? = some (a_led, .inr (3, [.ref a_itl, .ref a_cents, .ref a_grams, .ref a_cf, .ref a_cc, x_led_5, .ref a_lc, .ref a_lg, x_led_8, x_led_9]))) (f0_itl : ws[p_itl]? = some (a_itl, .inr (0, [x_itl_0, .ref a_ita, .int (nI (n))]))) (f0_ser : ws[p_ser]? = some (a_ser, .inr (4, [.ref a_led, x_ser_1, x_ser_2, .ref a_pr, x_ser_4, x_ser_5, x_ser_6, .int (gb (wf))]))) (f0_cents : ws[p_cents]? = some (a_cents, eN y 1152 cents)) (f0_grams : ws[p_grams]? = some (a_grams, eN y 1152 grams)) (f0_cc : ws[p_cc]? = some (a_cc, eN y 1152 cc)) (f0_lc : ws[p_lc]? = some (a_lc, eN y 1152 lc)) (f0_lg : ws[p_lg]? = some (a_lg, eN y 1152 lg)) (f0_cf : ws[p_cf]? = some (a_cf, eZ y 1152 cf)) (f0_pr : ws[p_pr]? = some (a_pr, eD y 1152 pr)) (b_cents : ∀ k, cents k ≤ 100000) (b_grams : ∀ k, grams k ≤ 10000) (b_cc : ∀ k, cc k ≤ 100000) (b_lc : ∀ k, lc k ≤ 100000) (b_lg : ∀ k, lg k ≤ 10000) (hw : nw ≤ 24) (hn : n ≤ 12) (hi : i < n) (ho : o < 4) (ht : t < nw) (hnn : nnIn (cf (t * 48 + i * 4 + o)) (sRate (sCw wf cc cents) grams (t * 48 + i * 4 + o)) (sBase lc lg pr (t * 48 + i * 4 + o))) : gMi l yX6_isMatched wsX6_isMatched ({ frames := 3, cells := 0, slots := 0, locals := 65 }) D y [.ref a_off, .int (nI (i)), .int (nI (o)), .int (nI (t))] ws (fun r (_ : Unit) => r = gb (rK cf (sCw wf cc cents) grams lc lg pr (t * 48 + i * 4 + o))) (fun (_ : Unit) => ws) := by
  refine g_met_z (cc := cX6_isMatched) (maxL := 4) (by decide) rfl (Nat.le_of_ble_eq_true rfl) ?_
  intro p e s m below meth c A hx hb hml hr hts hown hnm hlocks hE hP hD hS hA ls hl
  have hown : s.vm.findClass RX6 = some m.cls := hown
  have hl : lv_has ls 4 [(0, .ref a_off), (1, .int (nI (i))), (2, .int (nI (o))), (3, .int (nI (t)))] := hl
  have in_RX6 := in_c_X6_isMatched_RX6
  refine lv_aload_n hx hb dX6_isMatched_0 rfl (lv_at hl 0 rfl) ?_
  refine lv_iload_n hx hb dX6_isMatched_1 rfl (lv_at hl 1 rfl) ?_
  refine gc_V_v (As := [.int (nI (i))]) (rest := []) (c_X6_requireItem l f0_off f0_led f0_itl (rq_lt hi (by omega))) ⟨hx, hb, hml, hown, hts⟩ (cwV 1 hts gX6_isMatched_X6_requireItem rfl rfl rfl (by decide +kernel) ⟨Nat.le_of_ble_eq_true rfl, Nat.le_of_ble_eq_true rfl⟩) hE hP hD hS hA _ f0_off rfl rfl rfl rfl hl.1 (Nat.le_of_ble_eq_true rfl) dX6_isMatched_2 ⟨Nat.le_of_ble_eq_true rfl, Nat.le_of_ble_eq_true rfl⟩ (fun u_2 H locs hP hD hS q_2 => ?_)
  refine lv_iload_n hx hb dX6_isMatched_5 rfl (lv_at hl 2 rfl) ?_
  refine gc_S_v (As := [.int (nI (o))]) (rest := []) (c_X6_requireOutlet l (rq_lt ho (by omega))) ⟨hx, hb, hml, hown, hts⟩ (va_cwS 1 hts gX6_isMatched_X6_requireOutlet rfl rfl rfl (by decide +kernel) ⟨Nat.le_of_ble_eq_true rfl, Nat.le_of_ble_eq_true rfl⟩) hE hP hD hS hA rfl rfl hl.1 (Nat.le_of_ble_eq_true rfl) dX6_isMatched_6 ⟨Nat.le_of_ble_eq_true rfl, Nat.le_of_ble_eq_true rfl⟩ (fun u_6 H locs hP hD hS q_6 => ?_)
  refine lv_aload_n hx hb dX6_isMatched_9 rfl (lv_at hl 0 rfl) ?_
  refine lv_iload_n hx hb dX6_isMatched_10 rfl (lv_at hl 3 rfl) ?_
  refine gc_V_v (As := [.int (nI (t))]) (rest := []) (c_X6_requirePublished l f0_off (rq_lt ht (by omega))) ⟨hx, hb, hml, hown, hts⟩ (cwV 1 hts gX6_isMatched_X6_requirePublished rfl rfl rfl (by decide +kernel) ⟨Nat.le_of_ble_eq_true rfl, Nat.le_of_ble_eq_true rfl⟩) hE hP hD hS hA _ f0_off rfl rfl rfl rfl hl.1 (Nat.le_of_ble_eq_true rfl) dX6_isMatched_11 ⟨Nat.le_of_ble_eq_true rfl, Nat.le_of_ble_eq_true rfl⟩ (fun u_11 H locs hP hD hS q_11 => ?_)
  refine lv_aload_n hx hb dX6_isMatched_14 rfl (lv_at hl 0 rfl) ?_
  refine va_get (D := D) (ci := 7) (v := .ref a_ser) (C := RX6) (T := TX6) (N := 8) hx hb hts in_RX6 hown hE.1 (gv1 hP f0_off) 0 rfl rfl 2 (by decide) (hts (.fieldLink RX6 28 "BasketryOffice" "asPublished" "LBasketryOffice$Series;") (by decide +kernel)) (fun _ h9 => h9) rfl dX6_isMatched_15 ?_
  refine lv_iload_n hx hb dX6_isMatched_18 rfl (lv_at hl 1 rfl) ?_
  refine lv_iload_n hx hb dX6_isMatched_19 rfl (lv_at hl 2 rfl) ?_
  refine lv_iload_n hx hb dX6_isMatched_20 rfl (lv_at hl 3 rfl) ?_
  refine gc_S_i (As := [.int (nI (i)), .int (nI (o)), .int (nI (t))]) (rest := [.ref a_ser]) (c_X6_slotOf l) ⟨hx, hb, hml, hown, hts⟩ (va_cwS 3 hts gX6_isMatched_X6_slotOf rfl rfl rfl (by decide +kernel) ⟨Nat.le_of_ble_eq_true rfl, Nat.le_of_ble_eq_true rfl⟩) hE hP hD hS hA rfl rfl hl.1 (Nat.le_of_ble_eq_true rfl) dX6_isMatched_21 ⟨Nat.le_of_ble_eq_true rfl, Nat.le_of_ble_eq_true rfl⟩ (fun r_21 u_21 H locs hP hD hS q_21 => ?_)
  subst q_21
  refine gc_V_i (As := [.int (nI (t * 48 + i * 4 + o))]) (rest := []) (c_X3_matches l f0_ser f0_led f0_cents f0_grams f0_cc f0_lc f0_lg f0_cf f0_pr b_cents b_grams b_cc b_lc b_lg (by omega) hnn) ⟨hx, hb, hml, hown, hts⟩ (cwV 1 hts gX6_isMatched_X3_matches rfl rfl rfl (by decide +kernel) ⟨Nat.le_of_ble_eq_true rfl, Nat.le_of_ble_eq_true rfl⟩) hE hP hD hS hA _ f0_ser rfl rfl rfl rfl hl.1 (Nat.le_of_ble_eq_true rfl) dX6_isMatched_24 ⟨Nat.le_of_ble_eq_true rfl, Nat.le_of_ble_eq_true rfl⟩ (fun r_24 u_24 H locs hP hD hS q_24 => ?_)
  subst q_24
  refine g_zret (r := (gb (rK cf (sCw wf cc cents) grams lc lg pr (t * 48 + i * 4 + o)))) hx hb hr hlocks () dX6_isMatched_27 (gb_narrow _) hS hP hD ?_
  exact rfl

set_option maxHeartbeats 4000000 in
set_option maxRecDepth 100000 in
theorem x0_X6_doubts (l : Launch) {D : va_G} {y : Nat → Nat} {ws : va_W} {x_off_1 : Value} {x_off_3 : Value} {x_off_4 : Value} {x_off_5 : Value} {x_off_6 : Value} {p_off a_off a_led a_ser : Nat} {t : Int32} {nw : Nat} (f0_off : ws[p_off]? = some (a_off, .inr (7, [.ref a_led, x_off_1, .ref a_ser, x_off_3, x_off_4, x_off_5, x_off_6, .int (nI (nw))]))) (hfl : l.stackTraces = false) (hw : nw ≤ 24)  (hbad : t < 0 ∨ nI nw ≤ t) : gMxi l yX6_doubts wsX6_doubts ({ frames := 7, cells := 1, slots := 6, locals := 121 }) D y [.ref a_off, .int (t)] ws "java/lang/IndexOutOfBoundsException" := by
  refine g_metx_i (cc := cX6_doubts) (maxL := 2) (by decide) rfl (Nat.le_of_ble_eq_true rfl) ?_
  intro p e s m below meth c A hx hb hml hr hts hown hnm hlocks hE hP hD hS hA hex hX ls hl
  have hown : s.vm.findClass RX6 = some m.cls := hown
  have hl : lv_has ls 2 [(0, .ref a_off), (1, .int (t))] := hl
  refine lv_aload_n hx hb dX6_doubts_0 rfl (lv_at hl 0 rfl) ?_
  refine lv_iload_n hx hb dX6_doubts_1 rfl (lv_at hl 1 rfl) ?_
  exact gcx_V_v (As := [.int (t)]) (rest := []) (x_X6_requirePublished l f0_off hfl hbad) ⟨hx, hb, hml, hown, hts⟩ (cwV 1 hts gX6_doubts_X6_requirePublished rfl rfl rfl (by decide +kernel) ⟨Nat.le_of_ble_eq_true rfl, Nat.le_of_ble_eq_true rfl⟩) hE hX hex hlocks hP hD hS hA _ f0_off rfl rfl rfl rfl hl.1 (Nat.le_of_ble_eq_true rfl) dX6_doubts_2 ⟨Nat.le_of_ble_eq_true rfl, Nat.le_of_ble_eq_true rfl⟩ (Nat.le_of_ble_eq_true rfl) (Nat.le_of_ble_eq_true rfl)

theorem in_c_X6_doubts_RX6 : ∀ w ∈ wsX60, w ∈ wsX6_doubts := by decide +kernel
set_option maxHeartbeats 4000000 in
set_option maxRecDepth 100000 in
theorem c_X6_doubts (l : Launch) {D : va_G} {y : Nat → Nat} {ws : va_W} {x_off_0 : Value} {x_off_1 : Value} {x_off_3 : Value} {x_off_4 : Value} {x_off_5 : Value} {x_off_6 : Value} {x_ser_1 : Value} {x_ser_2 : Value} {x_ser_4 : Value} {x_ser_5 : Value} {x_ser_6 : Value} {x_led_5 : Value} {x_led_8 : Value} {x_led_9 : Value} {p_off p_ser p_led p_cents p_grams p_cc p_lc p_lg p_cf p_pr a_off a_ser a_led a_cents a_grams a_cc a_lc a_lg a_cf a_pr a_itl : Nat} {cents : Nat → Nat} {grams : Nat → Nat} {cc : Nat → Nat} {lc : Nat → Nat} {lg : Nat → Nat} {cf : Nat → Bool} {pr : Nat → UInt64} {t nw : Nat} {wf : Bool} (f0_off : ws[p_off]? = some (a_off, .inr (7, [x_off_0, x_off_1, .ref a_ser, x_off_3, x_off_4, x_off_5, x_off_6, .int (nI (nw))]))) (f0_ser : ws[p_ser]? = some (a_ser, .inr (4, [.ref a_led, x_ser_1, x_ser_2, .ref a_pr, x_ser_4, x_ser_5, x_ser_6, .int (gb (wf))]))) (f0_led : ws[p_led]? = some (a_led, .inr (3, [.ref a_itl, .ref a_cents, .ref a_grams, .ref a_cf, .ref a_cc, x_led_5, .ref a_lc, .ref a_lg, x_led_8, x_led_9]))) (f0_cents : ws[p_cents]? = some (a_cents, eN y 1152 cents)) (f0_grams : ws[p_grams]? = some (a_grams, eN y 1152 grams)) (f0_cc : ws[p_cc]? = some (a_cc, eN y 1152 cc)) (f0_lc : ws[p_lc]? = some (a_lc, eN y 1152 lc)) (f0_lg : ws[p_lg]? = some (a_lg, eN y 1152 lg)) (f0_cf : ws[p_cf]? = some (a_cf, eZ y 1152 cf)) (f0_pr : ws[p_pr]? = some (a_pr, eD y 1152 pr)) (b_cents : ∀ k, cents k ≤ 100000) (b_grams : ∀ k, grams k ≤ 10000) (b_cc : ∀ k, cc k ≤ 100000) (b_lc : ∀ k, lc k ≤ 100000) (b_lg : ∀ k, lg k ≤ 10000) (hw : nw ≤ 24) (ht : t < nw) (hnn : ∀ k, k < t * 48 + 48 → nnIn (cf k) (sRate (sCw wf cc cents) grams k) (sBase lc lg pr k)) : gMi l yX6_doubts wsX6_doubts ({ frames := 4, cells := 0, slots := 0, locals := 88 }) D y [.ref a_off, .int (nI (t))] ws (fun r (_ : Unit) => r = nI (dbF (rK cf (sCw wf cc cents) grams lc lg pr) cents (sBase lc lg pr) (t * 48) (48))) (fun (_ : Unit) => ws) := by
  refine g_met_i (cc := cX6_doubts) (maxL := 2) (by decide) rfl (Nat.le_of_ble_eq_true rfl) ?_
  intro p e s m below meth c A hx hb hml hr hts hown hnm hlocks hE hP hD hS hA ls hl
  have hown : s.vm.findClass RX6 = some m.cls := hown
  have hl : lv_has ls 2 [(0, .ref a_off), (1, .int (nI (t)))] := hl
  have in_RX6 := in_c_X6_doubts_RX6
  refine lv_aload_n hx hb dX6_doubts_0 rfl (lv_at hl 0 rfl) ?_
  refine lv_iload_n hx hb dX6_doubts_1 rfl (lv_at hl 1 rfl) ?_
  refine gc_V_v (As := [.int (nI (t))]) (rest := []) (c_X6_requirePublished l f0_off (rq_lt ht (by omega))) ⟨hx, hb, hml, hown, hts⟩ (cwV 1 hts gX6_doubts_X6_requirePublished rfl rfl rfl (by decide +kernel) ⟨Nat.le_of_ble_eq_true rfl, Nat.le_of_ble_eq_true rfl⟩) hE hP hD hS hA _ f0_off rfl rfl rfl rfl hl.1 (Nat.le_of_ble_eq_true rfl) dX6_doubts_2 ⟨Nat.le_of_ble_eq_true rfl, Nat.le_of_ble_eq_true rfl⟩ (fun u_2 H locs hP hD hS q_2 => ?_)
  refine lv_aload_n hx hb dX6_doubts_5 rfl (lv_at hl 0 rfl) ?_
  refine va_get (D := D) (ci := 7) (v := .ref a_ser) (C := RX6) (T := TX6) (N := 8) hx hb hts in_RX6 hown hE.1 (gv1 hP f0_off) 0 rfl rfl 2 (by decide) (hts (.fieldLink RX6 28 "BasketryOffice" "asPublished" "LBasketryOffice$Series;") (by decide +kernel)) (fun _ h9 => h9) rfl dX6_doubts_6 ?_
  refine lv_iload_n hx hb dX6_doubts_9 rfl (lv_at hl 1 rfl) ?_
  refine gc_V_i (As := [.int (nI (t))]) (rest := []) (c_X3_doubtsOf l f0_ser f0_led f0_cents f0_grams f0_cc f0_lc f0_lg f0_cf f0_pr b_cents b_grams b_cc b_lc b_lg (by omega) hnn) ⟨hx, hb, hml, hown, hts⟩ (cwV 1 hts gX6_doubts_X3_doubtsOf rfl rfl rfl (by decide +kernel) ⟨Nat.le_of_ble_eq_true rfl, Nat.le_of_ble_eq_true rfl⟩) hE hP hD hS hA _ f0_ser rfl rfl rfl rfl hl.1 (Nat.le_of_ble_eq_true rfl) dX6_doubts_10 ⟨Nat.le_of_ble_eq_true rfl, Nat.le_of_ble_eq_true rfl⟩ (fun r_10 u_10 H locs hP hD hS q_10 => ?_)
  subst q_10
  refine g_iret hx hb hr hlocks () dX6_doubts_13 hS hP hD ?_
  exact rfl

theorem in_c0_X6_count_RX2 : ∀ w ∈ wsX20, w ∈ wsX6_count := by decide +kernel
theorem in_c0_X6_count_RX6 : ∀ w ∈ wsX60, w ∈ wsX6_count := by decide +kernel
set_option maxHeartbeats 4000000 in
set_option maxRecDepth 100000 in
theorem c0_X6_count (l : Launch) {D : va_G} {y : Nat → Nat} {ws : va_W} {x_off_1 : Value} {x_off_2 : Value} {x_off_3 : Value} {x_off_4 : Value} {x_off_5 : Value} {x_led_1 : Value} {x_led_2 : Value} {x_led_3 : Value} {x_led_4 : Value} {x_led_5 : Value} {x_led_6 : Value} {x_led_7 : Value} {x_itl_0 : Value} {x_ctl_0 : Value} {p_off p_led p_itl p_ctl a_off a_led a_itl a_ctl a_cta a_ita : Nat} {nw n nc qn fq : Nat} (f0_off : ws[p_off]? = some (a_off, .inr (7, [.ref a_led, x_off_1, x_off_2, x_off_3, x_off_4, x_off_5, .ref a_ctl, .int (nI (nw))]))) (f0_led : ws[p_led]? = some (a_led, .inr (3, [.ref a_itl, x_led_1, x_led_2, x_led_3, x_led_4, x_led_5, x_led_6, x_led_7, .int (nI (qn)), .int (nI (fq))]))) (f0_itl : ws[p_itl]? = some (a_itl, .inr (0, [x_itl_0, .ref a_ita, .int (nI (n))]))) (f0_ctl : ws[p_ctl]? = some (a_ctl, .inr (0, [x_ctl_0, .ref a_cta, .int (nI (nc))]))) : gMi l yX6_count wsX6_count ({ frames := 1, cells := 0, slots := 0, locals := 20 }) D y [.ref a_off, .int (nI (0))] ws (fun r (_ : Unit) => r = nI n) (fun (_ : Unit) => ws) := by
  refine g_met_i (cc := cX6_count) (maxL := 2) (by decide) rfl (Nat.le_of_ble_eq_true rfl) ?_
  intro p e s m below meth c A hx hb hml hr hts hown hnm hlocks hE hP hD hS hA ls hl
  have hown : s.vm.findClass RX6 = some m.cls := hown
  have hl : lv_has ls 2 [(0, .ref a_off), (1, .int (nI (0)))] := hl
  have in_RX2 := in_c0_X6_count_RX2
  have in_RX6 := in_c0_X6_count_RX6
  refine lv_iload_n hx hb dX6_count_0 rfl (lv_at hl 1 rfl) ?_
  refine lv_tableIn (off := 35) (tgt := 36) hx hb dX6_count_1 (by decide) (by decide) (by decide) (by decide) ?_
  refine lv_aload_n hx hb dX6_count_36 rfl (lv_at hl 0 rfl) ?_
  refine va_get (D := D) (ci := 7) (v := .ref a_led) (C := RX6) (T := TX6) (N := 8) hx hb hts in_RX6 hown hE.1 (gv1 hP f0_off) 0 rfl rfl 0 (by decide) (hts (.fieldLink RX6 12 "BasketryOffice" "ledger" "LBasketryOffice$Ledger;") (by decide +kernel)) (fun _ h9 => h9) rfl dX6_count_37 ?_
  refine va_getN (D := D) (ci := 3) (v := .ref a_itl) (C := RX2) (T := TX2) (N := 10) hx hb hts in_RX2 hown hE.1 (gv1 hP f0_led) 0 rfl rfl 0 (by decide) (va_Nw.use rfl (hE.2 (.fieldLinkNest RX6 61 "BasketryOffice$Ledger" "items" "Ljava/util/ArrayList;" "BasketryOffice") (by decide +kernel))) (fun _ h9 => h9) rfl dX6_count_40 ?_
  refine gc_V_i (As := []) (rest := []) (c_Jx4a65c_size_8abf5 l f0_itl) ⟨hx, hb, hml, hown, hts⟩ (cwV 0 hts gX6_count_Jx4a65c_size_8abf5 rfl rfl rfl (by decide +kernel) ⟨Nat.le_of_ble_eq_true rfl, Nat.le_of_ble_eq_true rfl⟩) hE hP hD hS hA _ f0_itl rfl rfl rfl rfl hl.1 (Nat.le_of_ble_eq_true rfl) dX6_count_43 ⟨Nat.le_of_ble_eq_true rfl, Nat.le_of_ble_eq_true rfl⟩ (fun r_43 u_43 H locs hP hD hS q_43 => ?_)
  subst q_43
  refine g_iret hx hb hr hlocks () dX6_count_46 hS hP hD ?_
  exact rfl

theorem in_c1_X6_count_RX6 : ∀ w ∈ wsX60, w ∈ wsX6_count := by decide +kernel
set_option maxHeartbeats 4000000 in
set_option maxRecDepth 100000 in
theorem c1_X6_count (l : Launch) {D : va_G} {y : Nat → Nat} {ws : va_W} {x_off_1 : Value} {x_off_2 : Value} {x_off_3 : Value} {x_off_4 : Value} {x_off_5 : Value} {x_led_1 : Value} {x_led_2 : Value} {x_led_3 : Value} {x_led_4 : Value} {x_led_5 : Value} {x_led_6 : Value} {x_led_7 : Value} {x_itl_0 : Value} {x_ctl_0 : Value} {p_off p_led p_itl p_ctl a_off a_led a_itl a_ctl a_cta a_ita : Nat} {nw n nc qn fq : Nat} (f0_off : ws[p_off]? = some (a_off, .inr (7, [.ref a_led, x_off_1, x_off_2, x_off_3, x_off_4, x_off_5, .ref a_ctl, .int (nI (nw))]))) (f0_led : ws[p_led]? = some (a_led, .inr (3, [.ref a_itl, x_led_1, x_led_2, x_led_3, x_led_4, x_led_5, x_led_6, x_led_7, .int (nI (qn)), .int (nI (fq))]))) (f0_itl : ws[p_itl]? = some (a_itl, .inr (0, [x_itl_0, .ref a_ita, .int (nI (n))]))) (f0_ctl : ws[p_ctl]? = some (a_ctl, .inr (0, [x_ctl_0, .ref a_cta, .int (nI (nc))]))) : gMi l yX6_count wsX6_count ({ frames := 0, cells := 0, slots := 0, locals := 0 }) D y [.ref a_off, .int (nI (1))] ws (fun r (_ : Unit) => r = nI nw) (fun (_ : Unit) => ws) := by
  refine g_met_i (cc := cX6_count) (maxL := 2) (by decide) rfl (Nat.le_of_ble_eq_true rfl) ?_
  intro p e s m below meth c A hx hb hml hr hts hown hnm hlocks hE hP hD hS hA ls hl
  have hown : s.vm.findClass RX6 = some m.cls := hown
  have hl : lv_has ls 2 [(0, .ref a_off), (1, .int (nI (1)))] := hl
  have in_RX6 := in_c1_X6_count_RX6
  refine lv_iload_n hx hb dX6_count_0 rfl (lv_at hl 1 rfl) ?_
  refine lv_tableIn (off := 46) (tgt := 47) hx hb dX6_count_1 (by decide) (by decide) (by decide) (by decide) ?_
  refine lv_aload_n hx hb dX6_count_47 rfl (lv_at hl 0 rfl) ?_
  refine va_get (D := D) (ci := 7) (v := .int (nI (nw))) (C := RX6) (T := TX6) (N := 8) hx hb hts in_RX6 hown hE.1 (gv1 hP f0_off) 0 rfl rfl 7 (by decide) (hts (.fieldLink RX6 49 "BasketryOffice" "now" "I") (by decide +kernel)) (fun _ h9 => h9) rfl dX6_count_48 ?_
  refine g_iret hx hb hr hlocks () dX6_count_51 hS hP hD ?_
  exact rfl

theorem in_c2_X6_count_RX2 : ∀ w ∈ wsX20, w ∈ wsX6_count := by decide +kernel
theorem in_c2_X6_count_RX6 : ∀ w ∈ wsX60, w ∈ wsX6_count := by decide +kernel
set_option maxHeartbeats 4000000 in
set_option maxRecDepth 100000 in
theorem c2_X6_count (l : Launch) {D : va_G} {y : Nat → Nat} {ws : va_W} {x_off_1 : Value} {x_off_2 : Value} {x_off_3 : Value} {x_off_4 : Value} {x_off_5 : Value} {x_led_1 : Value} {x_led_2 : Value} {x_led_3 : Value} {x_led_4 : Value} {x_led_5 : Value} {x_led_6 : Value} {x_led_7 : Value} {x_itl_0 : Value} {x_ctl_0 : Value} {p_off p_led p_itl p_ctl a_off a_led a_itl a_ctl a_cta a_ita : Nat} {nw n nc qn fq : Nat} (f0_off : ws[p_off]? = some (a_off, .inr (7, [.ref a_led, x_off_1, x_off_2, x_off_3, x_off_4, x_off_5, .ref a_ctl, .int (nI (nw))]))) (f0_led : ws[p_led]? = some (a_led, .inr (3, [.ref a_itl, x_led_1, x_led_2, x_led_3, x_led_4, x_led_5, x_led_6, x_led_7, .int (nI (qn)), .int (nI (fq))]))) (f0_itl : ws[p_itl]? = some (a_itl, .inr (0, [x_itl_0, .ref a_ita, .int (nI (n))]))) (f0_ctl : ws[p_ctl]? = some (a_ctl, .inr (0, [x_ctl_0, .ref a_cta, .int (nI (nc))]))) : gMi l yX6_count wsX6_count ({ frames := 0, cells := 0, slots := 0, locals := 0 }) D y [.ref a_off, .int (nI (2))] ws (fun r (_ : Unit) => r = nI qn) (fun (_ : Unit) => ws) := by
  refine g_met_i (cc := cX6_count) (maxL := 2) (by decide) rfl (Nat.le_of_ble_eq_true rfl) ?_
  intro p e s m below meth c A hx hb hml hr hts hown hnm hlocks hE hP hD hS hA ls hl
  have hown : s.vm.findClass RX6 = some m.cls := hown
  have hl : lv_has ls 2 [(0, .ref a_off), (1, .int (nI (2)))] := hl
  have in_RX2 := in_c2_X6_count_RX2
  have in_RX6 := in_c2_X6_count_RX6
  refine lv_iload_n hx hb dX6_count_0 rfl (lv_at hl 1 rfl) ?_
  refine lv_tableIn (off := 51) (tgt := 52) hx hb dX6_count_1 (by decide) (by decide) (by decide) (by decide) ?_
  refine lv_aload_n hx hb dX6_count_52 rfl (lv_at hl 0 rfl) ?_
  refine va_get (D := D) (ci := 7) (v := .ref a_led) (C := RX6) (T := TX6) (N := 8) hx hb hts in_RX6 hown hE.1 (gv1 hP f0_off) 0 rfl rfl 0 (by decide) (hts (.fieldLink RX6 12 "BasketryOffice" "ledger" "LBasketryOffice$Ledger;") (by decide +kernel)) (fun _ h9 => h9) rfl dX6_count_53 ?_
  refine va_getN (D := D) (ci := 3) (v := .int (nI (qn))) (C := RX2) (T := TX2) (N := 10) hx hb hts in_RX2 hown hE.1 (gv1 hP f0_led) 0 rfl rfl 8 (by decide) (va_Nw.use rfl (hE.2 (.fieldLinkNest RX6 115 "BasketryOffice$Ledger" "quotesOfNow" "I" "BasketryOffice") (by decide +kernel))) (fun _ h9 => h9) rfl dX6_count_56 ?_
  refine g_iret hx hb hr hlocks () dX6_count_59 hS hP hD ?_
  exact rfl

theorem in_c3_X6_count_RX6 : ∀ w ∈ wsX60, w ∈ wsX6_count := by decide +kernel
set_option maxHeartbeats 4000000 in
set_option maxRecDepth 100000 in
theorem c3_X6_count (l : Launch) {D : va_G} {y : Nat → Nat} {ws : va_W} {x_off_1 : Value} {x_off_2 : Value} {x_off_3 : Value} {x_off_4 : Value} {x_off_5 : Value} {x_led_1 : Value} {x_led_2 : Value} {x_led_3 : Value} {x_led_4 : Value} {x_led_5 : Value} {x_led_6 : Value} {x_led_7 : Value} {x_itl_0 : Value} {x_ctl_0 : Value} {p_off p_led p_itl p_ctl a_off a_led a_itl a_ctl a_cta a_ita : Nat} {nw n nc qn fq : Nat} (f0_off : ws[p_off]? = some (a_off, .inr (7, [.ref a_led, x_off_1, x_off_2, x_off_3, x_off_4, x_off_5, .ref a_ctl, .int (nI (nw))]))) (f0_led : ws[p_led]? = some (a_led, .inr (3, [.ref a_itl, x_led_1, x_led_2, x_led_3, x_led_4, x_led_5, x_led_6, x_led_7, .int (nI (qn)), .int (nI (fq))]))) (f0_itl : ws[p_itl]? = some (a_itl, .inr (0, [x_itl_0, .ref a_ita, .int (nI (n))]))) (f0_ctl : ws[p_ctl]? = some (a_ctl, .inr (0, [x_ctl_0, .ref a_cta, .int (nI (nc))]))) : gMi l yX6_count wsX6_count ({ frames := 1, cells := 0, slots := 0, locals := 20 }) D y [.ref a_off, .int (nI (3))] ws (fun r (_ : Unit) => r = nI nc) (fun (_ : Unit) => ws) := by
  refine g_met_i (cc := cX6_count) (maxL := 2) (by decide) rfl (Nat.le_of_ble_eq_true rfl) ?_
  intro p e s m below meth c A hx hb hml hr hts hown hnm hlocks hE hP hD hS hA ls hl
  have hown : s.vm.findClass RX6 = some m.cls := hown
  have hl : lv_has ls 2 [(0, .ref a_off), (1, .int (nI (3)))] := hl
  have in_RX6 := in_c3_X6_count_RX6
  refine lv_iload_n hx hb dX6_count_0 rfl (lv_at hl 1 rfl) ?_
  refine lv_tableIn (off := 59) (tgt := 60) hx hb dX6_count_1 (by decide) (by decide) (by decide) (by decide) ?_
  refine lv_aload_n hx hb dX6_count_60 rfl (lv_at hl 0 rfl) ?_
  refine va_get (D := D) (ci := 7) (v := .ref a_ctl) (C := RX6) (T := TX6) (N := 8) hx hb hts in_RX6 hown hE.1 (gv1 hP f0_off) 0 rfl rfl 6 (by decide) (hts (.fieldLink RX6 45 "BasketryOffice" "contracts" "Ljava/util/ArrayList;") (by decide +kernel)) (fun _ h9 => h9) rfl dX6_count_61 ?_
  refine gc_V_i (As := []) (rest := []) (c_Jx4a65c_size_8abf5 l f0_ctl) ⟨hx, hb, hml, hown, hts⟩ (cwV 0 hts gX6_count_Jx4a65c_size_8abf5 rfl rfl rfl (by decide +kernel) ⟨Nat.le_of_ble_eq_true rfl, Nat.le_of_ble_eq_true rfl⟩) hE hP hD hS hA _ f0_ctl rfl rfl rfl rfl hl.1 (Nat.le_of_ble_eq_true rfl) dX6_count_64 ⟨Nat.le_of_ble_eq_true rfl, Nat.le_of_ble_eq_true rfl⟩ (fun r_64 u_64 H locs hP hD hS q_64 => ?_)
  subst q_64
  refine g_iret hx hb hr hlocks () dX6_count_67 hS hP hD ?_
  exact rfl

theorem in_c4_X6_count_RX2 : ∀ w ∈ wsX20, w ∈ wsX6_count := by decide +kernel
theorem in_c4_X6_count_RX6 : ∀ w ∈ wsX60, w ∈ wsX6_count := by decide +kernel
set_option maxHeartbeats 4000000 in
set_option maxRecDepth 100000 in
theorem c4_X6_count (l : Launch) {D : va_G} {y : Nat → Nat} {ws : va_W} {x_off_1 : Value} {x_off_2 : Value} {x_off_3 : Value} {x_off_4 : Value} {x_off_5 : Value} {x_led_1 : Value} {x_led_2 : Value} {x_led_3 : Value} {x_led_4 : Value} {x_led_5 : Value} {x_led_6 : Value} {x_led_7 : Value} {x_itl_0 : Value} {x_ctl_0 : Value} {p_off p_led p_itl p_ctl a_off a_led a_itl a_ctl a_cta a_ita : Nat} {nw n nc qn fq : Nat} (f0_off : ws[p_off]? = some (a_off, .inr (7, [.ref a_led, x_off_1, x_off_2, x_off_3, x_off_4, x_off_5, .ref a_ctl, .int (nI (nw))]))) (f0_led : ws[p_led]? = some (a_led, .inr (3, [.ref a_itl, x_led_1, x_led_2, x_led_3, x_led_4, x_led_5, x_led_6, x_led_7, .int (nI (qn)), .int (nI (fq))]))) (f0_itl : ws[p_itl]? = some (a_itl, .inr (0, [x_itl_0, .ref a_ita, .int (nI (n))]))) (f0_ctl : ws[p_ctl]? = some (a_ctl, .inr (0, [x_ctl_0, .ref a_cta, .int (nI (nc))]))) : gMi l yX6_count wsX6_count ({ frames := 0, cells := 0, slots := 0, locals := 0 }) D y [.ref a_off, .int (nI (4))] ws (fun r (_ : Unit) => r = nI fq) (fun (_ : Unit) => ws) := by
  refine g_met_i (cc := cX6_count) (maxL := 2) (by decide) rfl (Nat.le_of_ble_eq_true rfl) ?_
  intro p e s m below meth c A hx hb hml hr hts hown hnm hlocks hE hP hD hS hA ls hl
  have hown : s.vm.findClass RX6 = some m.cls := hown
  have hl : lv_has ls 2 [(0, .ref a_off), (1, .int (nI (4)))] := hl
  have in_RX2 := in_c4_X6_count_RX2
  have in_RX6 := in_c4_X6_count_RX6
  refine lv_iload_n hx hb dX6_count_0 rfl (lv_at hl 1 rfl) ?_
  refine lv_tableIn (off := 67) (tgt := 68) hx hb dX6_count_1 (by decide) (by decide) (by decide) (by decide) ?_
  refine lv_aload_n hx hb dX6_count_68 rfl (lv_at hl 0 rfl) ?_
  refine va_get (D := D) (ci := 7) (v := .ref a_led) (C := RX6) (T := TX6) (N := 8) hx hb hts in_RX6 hown hE.1 (gv1 hP f0_off) 0 rfl rfl 0 (by decide) (hts (.fieldLink RX6 12 "BasketryOffice" "ledger" "LBasketryOffice$Ledger;") (by decide +kernel)) (fun _ h9 => h9) rfl dX6_count_69 ?_
  refine va_getN (D := D) (ci := 3) (v := .int (nI (fq))) (C := RX2) (T := TX2) (N := 10) hx hb hts in_RX2 hown hE.1 (gv1 hP f0_led) 0 rfl rfl 9 (by decide) (va_Nw.use rfl (hE.2 (.fieldLinkNest RX6 245 "BasketryOffice$Ledger" "fixedQuotes" "I" "BasketryOffice") (by decide +kernel))) (fun _ h9 => h9) rfl dX6_count_72 ?_
  refine g_iret hx hb hr hlocks () dX6_count_75 hS hP hD ?_
  exact rfl

theorem inx_x0_X6_count_137 : ∀ w ∈ (vx_atS RX6 137 "java/lang/IndexOutOfBoundsException" ["java/lang/RuntimeException", "java/lang/Exception"]).filter goodWord, w ∈ wsX6_count := by decide +kernel
set_option maxHeartbeats 4000000 in
set_option maxRecDepth 100000 in
theorem x0_X6_count (l : Launch) {D : va_G} {y : Nat → Nat} {ws : va_W} {x_off_1 : Value} {x_off_2 : Value} {x_off_3 : Value} {x_off_4 : Value} {x_off_5 : Value} {x_off_6 : Value} {p_off a_off a_led : Nat} {x : Int32} {nw : Nat} (f0_off : ws[p_off]? = some (a_off, .inr (7, [.ref a_led, x_off_1, x_off_2, x_off_3, x_off_4, x_off_5, x_off_6, .int (nI (nw))]))) (hfl : l.stackTraces = false) (hbad : x.toInt < 0 ∨ 4 < x.toInt) : gMxi l yX6_count wsX6_count ({ frames := 6, cells := 1, slots := 6, locals := 100 }) D y [.ref a_off, .int (x)] ws "java/lang/IndexOutOfBoundsException" := by
  refine g_metx_i (cc := cX6_count) (maxL := 2) (by decide) rfl (Nat.le_of_ble_eq_true rfl) ?_
  intro p e s m below meth c A hx hb hml hr hts hown hnm hlocks hE hP hD hS hA hex hX ls hl
  have hown : s.vm.findClass RX6 = some m.cls := hown
  have hl : lv_has ls 2 [(0, .ref a_off), (1, .int (x))] := hl
  refine lv_iload_n hx hb dX6_count_0 rfl (lv_at hl 1 rfl) ?_
  refine lv_tableOut (tgt := 76) hx hb dX6_count_1 hbad (by decide) ?_
  exact g_throwS hx hb hfl (cls := "java/lang/IndexOutOfBoundsException") (text := "nothing of that kind is counted") (names := ["java/lang/RuntimeException", "java/lang/Exception"]) (ik := 133) (is := 248) (ic := 137) hown (by decide +kernel) htex_137 (hts (.classLink RX6 133 "java/lang/IndexOutOfBoundsException") (by decide +kernel)) (hts (.initialized "java/lang/IndexOutOfBoundsException") (by decide +kernel)) (by decide +kernel) (fun w hw => hts w (inx_x0_X6_count_137 w hw)) hat2_137 (vx_c (va_Nw.use rfl (hE.2 _ hnest_137)) (vx_c (va_Nw.use rfl (hE.2 _ hnest_r)) (vx_c (va_Nw.use rfl (hE.2 _ hnest_e)) (vx_c (va_Nw.use rfl (hE.2 _ hnest_t)) vx_n)))) hgood_137 hX hS hP hD (hl.1.trans hml.symm) hex hlocks dX6_count_76 dX6_count_79 dX6_count_80 dX6_count_82 dX6_count_85 (Nat.le_of_ble_eq_true rfl) (Nat.le_of_ble_eq_true rfl) (Nat.le_of_ble_eq_true rfl) (Nat.le_of_ble_eq_true rfl) (Nat.le_of_ble_eq_true rfl) (Nat.le_of_ble_eq_true rfl)

set_option maxHeartbeats 4000000 in
set_option maxRecDepth 100000 in
theorem x0_X6_ofContract (l : Launch) {D : va_G} {y : Nat → Nat} {ws : va_W} {x_off_1 : Value} {x_off_2 : Value} {x_off_3 : Value} {x_off_4 : Value} {x_off_5 : Value} {x_ctl_0 : Value} {p_off p_ctl a_off a_ctl a_cta a_led : Nat} {c9 w9 : Int32} {nw nc : Nat} (f0_off : ws[p_off]? = some (a_off, .inr (7, [.ref a_led, x_off_1, x_off_2, x_off_3, x_off_4, x_off_5, .ref a_ctl, .int (nI (nw))]))) (f0_ctl : ws[p_ctl]? = some (a_ctl, .inr (0, [x_ctl_0, .ref a_cta, .int (nI (nc))]))) (hfl : l.stackTraces = false) (hc : nc ≤ 10)  (hbad : c9 < 0 ∨ nI nc ≤ c9) : gMxl l yX6_ofContract wsX6_ofContract ({ frames := 7, cells := 1, slots := 6, locals := 121 }) D y [.ref a_off, .int (c9), .int (w9)] ws "java/lang/IndexOutOfBoundsException" := by
  refine g_metx_l (cc := cX6_ofContract) (maxL := 4) (by decide) rfl (Nat.le_of_ble_eq_true rfl) ?_
  intro p e s m below meth c A hx hb hml hr hts hown hnm hlocks hE hP hD hS hA hex hX ls hl
  have hown : s.vm.findClass RX6 = some m.cls := hown
  have hl : lv_has ls 4 [(0, .ref a_off), (1, .int (c9)), (2, .int (w9))] := hl
  refine lv_aload_n hx hb dX6_ofContract_0 rfl (lv_at hl 0 rfl) ?_
  refine lv_iload_n hx hb dX6_ofContract_1 rfl (lv_at hl 1 rfl) ?_
  exact gcx_V_v (As := [.int (c9)]) (rest := []) (x_X6_requireContract l f0_off f0_ctl hfl hbad) ⟨hx, hb, hml, hown, hts⟩ (cwV 1 hts gX6_ofContract_X6_requireContract rfl rfl rfl (by decide +kernel) ⟨Nat.le_of_ble_eq_true rfl, Nat.le_of_ble_eq_true rfl⟩) hE hX hex hlocks hP hD hS hA _ f0_off rfl rfl rfl rfl hl.1 (Nat.le_of_ble_eq_true rfl) dX6_ofContract_2 ⟨Nat.le_of_ble_eq_true rfl, Nat.le_of_ble_eq_true rfl⟩ (Nat.le_of_ble_eq_true rfl) (Nat.le_of_ble_eq_true rfl)

theorem in_c0_X6_ofContract_RX0 : ∀ w ∈ wsX00, w ∈ wsX6_ofContract := by decide +kernel
theorem in_c0_X6_ofContract_RX6 : ∀ w ∈ wsX60, w ∈ wsX6_ofContract := by decide +kernel
set_option maxHeartbeats 4000000 in
set_option maxRecDepth 100000 in
theorem c0_X6_ofContract (l : Launch) {D : va_G} {y : Nat → Nat} {ws : va_W} {x_off_1 : Value} {x_off_2 : Value} {x_off_3 : Value} {x_off_4 : Value} {x_off_5 : Value} {x_ctl_0 : Value} {p_off p_ctl p_cta a_off a_ctl a_cta a_led : Nat} {qc : Nat → Option Nat} {nw k : Nat} {nc capc : Nat} {adc pk fw lag trig : Nat → Nat} {fl : Nat → Bool} {fm : Nat → Nat} {cs : Nat → Nat × Nat × Nat × Nat} (f0_off : ws[p_off]? = some (a_off, .inr (7, [.ref a_led, x_off_1, x_off_2, x_off_3, x_off_4, x_off_5, .ref a_ctl, .int (nI (nw))]))) (f0_ctl : ws[p_ctl]? = some (a_ctl, .inr (0, [x_ctl_0, .ref a_cta, .int (nI (nc))]))) (f0_cta : ws[p_cta]? = some (a_cta, eQ y capc qc)) (hc : nc ≤ 10) (hk : k < nc) (hCt : gCt ws nc capc qc adc pk fw lag trig fl fm cs) : gMl l yX6_ofContract wsX6_ofContract ({ frames := 3, cells := 0, slots := 0, locals := 64 }) D y [.ref a_off, .int (nI (k)), .int (nI (0))] ws (fun r (_ : Unit) => r = lN (cs k).1) (fun (_ : Unit) => ws) := by
  refine g_met_l (cc := cX6_ofContract) (maxL := 4) (by decide) rfl (Nat.le_of_ble_eq_true rfl) ?_
  intro p e s m below meth c A hx hb hml hr hts hown hnm hlocks hE hP hD hS hA ls hl
  have hown : s.vm.findClass RX6 = some m.cls := hown
  have hl : lv_has ls 4 [(0, .ref a_off), (1, .int (nI (k))), (2, .int (nI (0)))] := hl
  have in_RX0 := in_c0_X6_ofContract_RX0
  have in_RX6 := in_c0_X6_ofContract_RX6
  have hCtc := hCt
  refine lv_aload_n hx hb dX6_ofContract_0 rfl (lv_at hl 0 rfl) ?_
  refine lv_iload_n hx hb dX6_ofContract_1 rfl (lv_at hl 1 rfl) ?_
  refine gc_V_v (As := [.int (nI (k))]) (rest := []) (c_X6_requireContract l f0_off f0_ctl (rq_lt hk (by omega))) ⟨hx, hb, hml, hown, hts⟩ (cwV 1 hts gX6_ofContract_X6_requireContract rfl rfl rfl (by decide +kernel) ⟨Nat.le_of_ble_eq_true rfl, Nat.le_of_ble_eq_true rfl⟩) hE hP hD hS hA _ f0_off rfl rfl rfl rfl hl.1 (Nat.le_of_ble_eq_true rfl) dX6_ofContract_2 ⟨Nat.le_of_ble_eq_true rfl, Nat.le_of_ble_eq_true rfl⟩ (fun u_2 H locs hP hD hS q_2 => ?_)
  refine lv_aload_n hx hb dX6_ofContract_5 rfl (lv_at hl 0 rfl) ?_
  refine va_get (D := D) (ci := 7) (v := .ref a_ctl) (C := RX6) (T := TX6) (N := 8) hx hb hts in_RX6 hown hE.1 (gv1 hP f0_off) 0 rfl rfl 6 (by decide) (hts (.fieldLink RX6 45 "BasketryOffice" "contracts" "Ljava/util/ArrayList;") (by decide +kernel)) (fun _ h9 => h9) rfl dX6_ofContract_6 ?_
  refine lv_iload_n hx hb dX6_ofContract_9 rfl (lv_at hl 1 rfl) ?_
  refine gc_V_r (As := [.int (nI (k))]) (rest := []) (c_Jx4a65c_get_915e3 l f0_ctl f0_cta hk hCt.1 hCt.2.1 (hCt.2.2.1 _ hk)) ⟨hx, hb, hml, hown, hts⟩ (cwV 1 hts gX6_ofContract_Jx4a65c_get_915e3 rfl rfl rfl (by decide +kernel) ⟨Nat.le_of_ble_eq_true rfl, Nat.le_of_ble_eq_true rfl⟩) hE hP hD hS hA _ f0_ctl rfl rfl rfl rfl hl.1 (Nat.le_of_ble_eq_true rfl) dX6_ofContract_10 ⟨Nat.le_of_ble_eq_true rfl, Nat.le_of_ble_eq_true rfl⟩ (fun r_10 u_10 H locs hP hD hS q_10 => ?_)
  subst q_10
  have f0_con := hCt.2.2.2 (k) hk
  refine va_castS hx hb hown (hts (.classLink RX6 160 RX0) (by decide +kernel)) (hE.1.1 1 _ rfl).2 (gv_recv hE.1 hP rfl f0_con) dX6_ofContract_13 ?_
  refine lv_astore_n (lv' := [(3, .ref (adc (k))), (0, .ref a_off), (1, .int (nI (k))), (2, .int (nI (0)))]) hx hb dX6_ofContract_16 rfl hl (by decide) rfl (fun ls hl => ?_)
  refine lv_iload_n hx hb dX6_ofContract_17 rfl (lv_at hl 3 rfl) ?_
  refine lv_tableIn (off := 30) (tgt := 48) hx hb dX6_ofContract_18 (by decide) (by decide) (by decide) (by decide) ?_
  refine lv_aload_n hx hb dX6_ofContract_48 rfl (lv_at hl 0 rfl) ?_
  refine va_getN (D := D) (ci := 1) (v := .long (lN ((cs (k)).1))) (C := RX0) (T := TX0) (N := 9) hx hb hts in_RX0 hown hE.1 (gv1 hP f0_con) 0 rfl rfl 5 (by decide) (va_Nw.use rfl (hE.2 (.fieldLinkNest RX6 226 "BasketryOffice$Contract" "wage" "J" "BasketryOffice") (by decide +kernel))) (fun _ h9 => h9) rfl dX6_ofContract_49 ?_
  refine g_lret hx hb hr hlocks () dX6_ofContract_52 hS hP hD ?_
  exact rfl

theorem in_c1_X6_ofContract_RX0 : ∀ w ∈ wsX00, w ∈ wsX6_ofContract := by decide +kernel
theorem in_c1_X6_ofContract_RX6 : ∀ w ∈ wsX60, w ∈ wsX6_ofContract := by decide +kernel
set_option maxHeartbeats 4000000 in
set_option maxRecDepth 100000 in
theorem c1_X6_ofContract (l : Launch) {D : va_G} {y : Nat → Nat} {ws : va_W} {x_off_1 : Value} {x_off_2 : Value} {x_off_3 : Value} {x_off_4 : Value} {x_off_5 : Value} {x_ctl_0 : Value} {p_off p_ctl p_cta a_off a_ctl a_cta a_led : Nat} {qc : Nat → Option Nat} {nw k : Nat} {nc capc : Nat} {adc pk fw lag trig : Nat → Nat} {fl : Nat → Bool} {fm : Nat → Nat} {cs : Nat → Nat × Nat × Nat × Nat} (f0_off : ws[p_off]? = some (a_off, .inr (7, [.ref a_led, x_off_1, x_off_2, x_off_3, x_off_4, x_off_5, .ref a_ctl, .int (nI (nw))]))) (f0_ctl : ws[p_ctl]? = some (a_ctl, .inr (0, [x_ctl_0, .ref a_cta, .int (nI (nc))]))) (f0_cta : ws[p_cta]? = some (a_cta, eQ y capc qc)) (hc : nc ≤ 10) (hk : k < nc) (hCt : gCt ws nc capc qc adc pk fw lag trig fl fm cs) : gMl l yX6_ofContract wsX6_ofContract ({ frames := 3, cells := 0, slots := 0, locals := 64 }) D y [.ref a_off, .int (nI (k)), .int (nI (1))] ws (fun r (_ : Unit) => r = lN (cs k).2.1) (fun (_ : Unit) => ws) := by
  refine g_met_l (cc := cX6_ofContract) (maxL := 4) (by decide) rfl (Nat.le_of_ble_eq_true rfl) ?_
  intro p e s m below meth c A hx hb hml hr hts hown hnm hlocks hE hP hD hS hA ls hl
  have hown : s.vm.findClass RX6 = some m.cls := hown
  have hl : lv_has ls 4 [(0, .ref a_off), (1, .int (nI (k))), (2, .int (nI (1)))] := hl
  have in_RX0 := in_c1_X6_ofContract_RX0
  have in_RX6 := in_c1_X6_ofContract_RX6
  have hCtc := hCt
  refine lv_aload_n hx hb dX6_ofContract_0 rfl (lv_at hl 0 rfl) ?_
  refine lv_iload_n hx hb dX6_ofContract_1 rfl (lv_at hl 1 rfl) ?_
  refine gc_V_v (As := [.int (nI (k))]) (rest := []) (c_X6_requireContract l f0_off f0_ctl (rq_lt hk (by omega))) ⟨hx, hb, hml, hown, hts⟩ (cwV 1 hts gX6_ofContract_X6_requireContract rfl rfl rfl (by decide +kernel) ⟨Nat.le_of_ble_eq_true rfl, Nat.le_of_ble_eq_true rfl⟩) hE hP hD hS hA _ f0_off rfl rfl rfl rfl hl.1 (Nat.le_of_ble_eq_true rfl) dX6_ofContract_2 ⟨Nat.le_of_ble_eq_true rfl, Nat.le_of_ble_eq_true rfl⟩ (fun u_2 H locs hP hD hS q_2 => ?_)
  refine lv_aload_n hx hb dX6_ofContract_5 rfl (lv_at hl 0 rfl) ?_
  refine va_get (D := D) (ci := 7) (v := .ref a_ctl) (C := RX6) (T := TX6) (N := 8) hx hb hts in_RX6 hown hE.1 (gv1 hP f0_off) 0 rfl rfl 6 (by decide) (hts (.fieldLink RX6 45 "BasketryOffice" "contracts" "Ljava/util/ArrayList;") (by decide +kernel)) (fun _ h9 => h9) rfl dX6_ofContract_6 ?_
  refine lv_iload_n hx hb dX6_ofContract_9 rfl (lv_at hl 1 rfl) ?_
  refine gc_V_r (As := [.int (nI (k))]) (rest := []) (c_Jx4a65c_get_915e3 l f0_ctl f0_cta hk hCt.1 hCt.2.1 (hCt.2.2.1 _ hk)) ⟨hx, hb, hml, hown, hts⟩ (cwV 1 hts gX6_ofContract_Jx4a65c_get_915e3 rfl rfl rfl (by decide +kernel) ⟨Nat.le_of_ble_eq_true rfl, Nat.le_of_ble_eq_true rfl⟩) hE hP hD hS hA _ f0_ctl rfl rfl rfl rfl hl.1 (Nat.le_of_ble_eq_true rfl) dX6_ofContract_10 ⟨Nat.le_of_ble_eq_true rfl, Nat.le_of_ble_eq_true rfl⟩ (fun r_10 u_10 H locs hP hD hS q_10 => ?_)
  subst q_10
  have f0_con := hCt.2.2.2 (k) hk
  refine va_castS hx hb hown (hts (.classLink RX6 160 RX0) (by decide +kernel)) (hE.1.1 1 _ rfl).2 (gv_recv hE.1 hP rfl f0_con) dX6_ofContract_13 ?_
  refine lv_astore_n (lv' := [(3, .ref (adc (k))), (0, .ref a_off), (1, .int (nI (k))), (2, .int (nI (1)))]) hx hb dX6_ofContract_16 rfl hl (by decide) rfl (fun ls hl => ?_)
  refine lv_iload_n hx hb dX6_ofContract_17 rfl (lv_at hl 3 rfl) ?_
  refine lv_tableIn (off := 35) (tgt := 53) hx hb dX6_ofContract_18 (by decide) (by decide) (by decide) (by decide) ?_
  refine lv_aload_n hx hb dX6_ofContract_53 rfl (lv_at hl 0 rfl) ?_
  refine va_getN (D := D) (ci := 1) (v := .long (lN ((cs (k)).2.1))) (C := RX0) (T := TX0) (N := 9) hx hb hts in_RX0 hown hE.1 (gv1 hP f0_con) 0 rfl rfl 6 (by decide) (va_Nw.use rfl (hE.2 (.fieldLinkNest RX6 230 "BasketryOffice$Contract" "lastNumber" "J" "BasketryOffice") (by decide +kernel))) (fun _ h9 => h9) rfl dX6_ofContract_54 ?_
  refine g_lret hx hb hr hlocks () dX6_ofContract_57 hS hP hD ?_
  exact rfl

theorem in_c2_X6_ofContract_RX0 : ∀ w ∈ wsX00, w ∈ wsX6_ofContract := by decide +kernel
theorem in_c2_X6_ofContract_RX6 : ∀ w ∈ wsX60, w ∈ wsX6_ofContract := by decide +kernel
set_option maxHeartbeats 4000000 in
set_option maxRecDepth 100000 in
theorem c2_X6_ofContract (l : Launch) {D : va_G} {y : Nat → Nat} {ws : va_W} {x_off_1 : Value} {x_off_2 : Value} {x_off_3 : Value} {x_off_4 : Value} {x_off_5 : Value} {x_ctl_0 : Value} {p_off p_ctl p_cta a_off a_ctl a_cta a_led : Nat} {qc : Nat → Option Nat} {nw k : Nat} {nc capc : Nat} {adc pk fw lag trig : Nat → Nat} {fl : Nat → Bool} {fm : Nat → Nat} {cs : Nat → Nat × Nat × Nat × Nat} (f0_off : ws[p_off]? = some (a_off, .inr (7, [.ref a_led, x_off_1, x_off_2, x_off_3, x_off_4, x_off_5, .ref a_ctl, .int (nI (nw))]))) (f0_ctl : ws[p_ctl]? = some (a_ctl, .inr (0, [x_ctl_0, .ref a_cta, .int (nI (nc))]))) (f0_cta : ws[p_cta]? = some (a_cta, eQ y capc qc)) (hc : nc ≤ 10) (hk : k < nc) (hCt : gCt ws nc capc qc adc pk fw lag trig fl fm cs) (hcm : (cs k).2.2.1 < 24) : gMl l yX6_ofContract wsX6_ofContract ({ frames := 3, cells := 0, slots := 0, locals := 64 }) D y [.ref a_off, .int (nI (k)), .int (nI (2))] ws (fun r (_ : Unit) => r = lN (cs k).2.2.1) (fun (_ : Unit) => ws) := by
  refine g_met_l (cc := cX6_ofContract) (maxL := 4) (by decide) rfl (Nat.le_of_ble_eq_true rfl) ?_
  intro p e s m below meth c A hx hb hml hr hts hown hnm hlocks hE hP hD hS hA ls hl
  have hown : s.vm.findClass RX6 = some m.cls := hown
  have hl : lv_has ls 4 [(0, .ref a_off), (1, .int (nI (k))), (2, .int (nI (2)))] := hl
  have in_RX0 := in_c2_X6_ofContract_RX0
  have in_RX6 := in_c2_X6_ofContract_RX6
  have hCtc := hCt
  refine lv_aload_n hx hb dX6_ofContract_0 rfl (lv_at hl 0 rfl) ?_
  refine lv_iload_n hx hb dX6_ofContract_1 rfl (lv_at hl 1 rfl) ?_
  refine gc_V_v (As := [.int (nI (k))]) (rest := []) (c_X6_requireContract l f0_off f0_ctl (rq_lt hk (by omega))) ⟨hx, hb, hml, hown, hts⟩ (cwV 1 hts gX6_ofContract_X6_requireContract rfl rfl rfl (by decide +kernel) ⟨Nat.le_of_ble_eq_true rfl, Nat.le_of_ble_eq_true rfl⟩) hE hP hD hS hA _ f0_off rfl rfl rfl rfl hl.1 (Nat.le_of_ble_eq_true rfl) dX6_ofContract_2 ⟨Nat.le_of_ble_eq_true rfl, Nat.le_of_ble_eq_true rfl⟩ (fun u_2 H locs hP hD hS q_2 => ?_)
  refine lv_aload_n hx hb dX6_ofContract_5 rfl (lv_at hl 0 rfl) ?_
  refine va_get (D := D) (ci := 7) (v := .ref a_ctl) (C := RX6) (T := TX6) (N := 8) hx hb hts in_RX6 hown hE.1 (gv1 hP f0_off) 0 rfl rfl 6 (by decide) (hts (.fieldLink RX6 45 "BasketryOffice" "contracts" "Ljava/util/ArrayList;") (by decide +kernel)) (fun _ h9 => h9) rfl dX6_ofContract_6 ?_
  refine lv_iload_n hx hb dX6_ofContract_9 rfl (lv_at hl 1 rfl) ?_
  refine gc_V_r (As := [.int (nI (k))]) (rest := []) (c_Jx4a65c_get_915e3 l f0_ctl f0_cta hk hCt.1 hCt.2.1 (hCt.2.2.1 _ hk)) ⟨hx, hb, hml, hown, hts⟩ (cwV 1 hts gX6_ofContract_Jx4a65c_get_915e3 rfl rfl rfl (by decide +kernel) ⟨Nat.le_of_ble_eq_true rfl, Nat.le_of_ble_eq_true rfl⟩) hE hP hD hS hA _ f0_ctl rfl rfl rfl rfl hl.1 (Nat.le_of_ble_eq_true rfl) dX6_ofContract_10 ⟨Nat.le_of_ble_eq_true rfl, Nat.le_of_ble_eq_true rfl⟩ (fun r_10 u_10 H locs hP hD hS q_10 => ?_)
  subst q_10
  have f0_con := hCt.2.2.2 (k) hk
  refine va_castS hx hb hown (hts (.classLink RX6 160 RX0) (by decide +kernel)) (hE.1.1 1 _ rfl).2 (gv_recv hE.1 hP rfl f0_con) dX6_ofContract_13 ?_
  refine lv_astore_n (lv' := [(3, .ref (adc (k))), (0, .ref a_off), (1, .int (nI (k))), (2, .int (nI (2)))]) hx hb dX6_ofContract_16 rfl hl (by decide) rfl (fun ls hl => ?_)
  refine lv_iload_n hx hb dX6_ofContract_17 rfl (lv_at hl 3 rfl) ?_
  refine lv_tableIn (off := 40) (tgt := 58) hx hb dX6_ofContract_18 (by decide) (by decide) (by decide) (by decide) ?_
  refine lv_aload_n hx hb dX6_ofContract_58 rfl (lv_at hl 0 rfl) ?_
  refine va_getN (D := D) (ci := 1) (v := .int (nI ((cs (k)).2.2.1))) (C := RX0) (T := TX0) (N := 9) hx hb hts in_RX0 hown hE.1 (gv1 hP f0_con) 0 rfl rfl 7 (by decide) (va_Nw.use rfl (hE.2 (.fieldLinkNest RX6 233 "BasketryOffice$Contract" "lastMonth" "I" "BasketryOffice") (by decide +kernel))) (fun _ h9 => h9) rfl dX6_ofContract_59 ?_
  refine lv_i2l (v := lN ((cs (k)).2.2.1)) hx hb dX6_ofContract_62 (nI_l (by omega)) ?_
  refine g_lret hx hb hr hlocks () dX6_ofContract_63 hS hP hD ?_
  exact rfl

theorem in_c3_X6_ofContract_RX0 : ∀ w ∈ wsX00, w ∈ wsX6_ofContract := by decide +kernel
theorem in_c3_X6_ofContract_RX6 : ∀ w ∈ wsX60, w ∈ wsX6_ofContract := by decide +kernel
set_option maxHeartbeats 4000000 in
set_option maxRecDepth 100000 in
theorem c3_X6_ofContract (l : Launch) {D : va_G} {y : Nat → Nat} {ws : va_W} {x_off_1 : Value} {x_off_2 : Value} {x_off_3 : Value} {x_off_4 : Value} {x_off_5 : Value} {x_ctl_0 : Value} {p_off p_ctl p_cta a_off a_ctl a_cta a_led : Nat} {qc : Nat → Option Nat} {nw k : Nat} {nc capc : Nat} {adc pk fw lag trig : Nat → Nat} {fl : Nat → Bool} {fm : Nat → Nat} {cs : Nat → Nat × Nat × Nat × Nat} (f0_off : ws[p_off]? = some (a_off, .inr (7, [.ref a_led, x_off_1, x_off_2, x_off_3, x_off_4, x_off_5, .ref a_ctl, .int (nI (nw))]))) (f0_ctl : ws[p_ctl]? = some (a_ctl, .inr (0, [x_ctl_0, .ref a_cta, .int (nI (nc))]))) (f0_cta : ws[p_cta]? = some (a_cta, eQ y capc qc)) (hc : nc ≤ 10) (hk : k < nc) (hCt : gCt ws nc capc qc adc pk fw lag trig fl fm cs) : gMl l yX6_ofContract wsX6_ofContract ({ frames := 3, cells := 0, slots := 0, locals := 64 }) D y [.ref a_off, .int (nI (k)), .int (nI (3))] ws (fun r (_ : Unit) => r = lN (cs k).2.2.2) (fun (_ : Unit) => ws) := by
  refine g_met_l (cc := cX6_ofContract) (maxL := 4) (by decide) rfl (Nat.le_of_ble_eq_true rfl) ?_
  intro p e s m below meth c A hx hb hml hr hts hown hnm hlocks hE hP hD hS hA ls hl
  have hown : s.vm.findClass RX6 = some m.cls := hown
  have hl : lv_has ls 4 [(0, .ref a_off), (1, .int (nI (k))), (2, .int (nI (3)))] := hl
  have in_RX0 := in_c3_X6_ofContract_RX0
  have in_RX6 := in_c3_X6_ofContract_RX6
  have hCtc := hCt
  refine lv_aload_n hx hb dX6_ofContract_0 rfl (lv_at hl 0 rfl) ?_
  refine lv_iload_n hx hb dX6_ofContract_1 rfl (lv_at hl 1 rfl) ?_
  refine gc_V_v (As := [.int (nI (k))]) (rest := []) (c_X6_requireContract l f0_off f0_ctl (rq_lt hk (by omega))) ⟨hx, hb, hml, hown, hts⟩ (cwV 1 hts gX6_ofContract_X6_requireContract rfl rfl rfl (by decide +kernel) ⟨Nat.le_of_ble_eq_true rfl, Nat.le_of_ble_eq_true rfl⟩) hE hP hD hS hA _ f0_off rfl rfl rfl rfl hl.1 (Nat.le_of_ble_eq_true rfl) dX6_ofContract_2 ⟨Nat.le_of_ble_eq_true rfl, Nat.le_of_ble_eq_true rfl⟩ (fun u_2 H locs hP hD hS q_2 => ?_)
  refine lv_aload_n hx hb dX6_ofContract_5 rfl (lv_at hl 0 rfl) ?_
  refine va_get (D := D) (ci := 7) (v := .ref a_ctl) (C := RX6) (T := TX6) (N := 8) hx hb hts in_RX6 hown hE.1 (gv1 hP f0_off) 0 rfl rfl 6 (by decide) (hts (.fieldLink RX6 45 "BasketryOffice" "contracts" "Ljava/util/ArrayList;") (by decide +kernel)) (fun _ h9 => h9) rfl dX6_ofContract_6 ?_
  refine lv_iload_n hx hb dX6_ofContract_9 rfl (lv_at hl 1 rfl) ?_
  refine gc_V_r (As := [.int (nI (k))]) (rest := []) (c_Jx4a65c_get_915e3 l f0_ctl f0_cta hk hCt.1 hCt.2.1 (hCt.2.2.1 _ hk)) ⟨hx, hb, hml, hown, hts⟩ (cwV 1 hts gX6_ofContract_Jx4a65c_get_915e3 rfl rfl rfl (by decide +kernel) ⟨Nat.le_of_ble_eq_true rfl, Nat.le_of_ble_eq_true rfl⟩) hE hP hD hS hA _ f0_ctl rfl rfl rfl rfl hl.1 (Nat.le_of_ble_eq_true rfl) dX6_ofContract_10 ⟨Nat.le_of_ble_eq_true rfl, Nat.le_of_ble_eq_true rfl⟩ (fun r_10 u_10 H locs hP hD hS q_10 => ?_)
  subst q_10
  have f0_con := hCt.2.2.2 (k) hk
  refine va_castS hx hb hown (hts (.classLink RX6 160 RX0) (by decide +kernel)) (hE.1.1 1 _ rfl).2 (gv_recv hE.1 hP rfl f0_con) dX6_ofContract_13 ?_
  refine lv_astore_n (lv' := [(3, .ref (adc (k))), (0, .ref a_off), (1, .int (nI (k))), (2, .int (nI (3)))]) hx hb dX6_ofContract_16 rfl hl (by decide) rfl (fun ls hl => ?_)
  refine lv_iload_n hx hb dX6_ofContract_17 rfl (lv_at hl 3 rfl) ?_
  refine lv_tableIn (off := 46) (tgt := 64) hx hb dX6_ofContract_18 (by decide) (by decide) (by decide) (by decide) ?_
  refine lv_aload_n hx hb dX6_ofContract_64 rfl (lv_at hl 0 rfl) ?_
  refine va_getN (D := D) (ci := 1) (v := .long (lN ((cs (k)).2.2.2))) (C := RX0) (T := TX0) (N := 9) hx hb hts in_RX0 hown hE.1 (gv1 hP f0_con) 0 rfl rfl 8 (by decide) (va_Nw.use rfl (hE.2 (.fieldLinkNest RX6 236 "BasketryOffice$Contract" "paid" "J" "BasketryOffice") (by decide +kernel))) (fun _ h9 => h9) rfl dX6_ofContract_65 ?_
  refine g_lret hx hb hr hlocks () dX6_ofContract_68 hS hP hD ?_
  exact rfl

theorem in_x1_X6_ofContract_RX6 : ∀ w ∈ wsX60, w ∈ wsX6_ofContract := by decide +kernel
theorem inx_x1_X6_ofContract_137 : ∀ w ∈ (vx_atS RX6 137 "java/lang/IndexOutOfBoundsException" ["java/lang/RuntimeException", "java/lang/Exception"]).filter goodWord, w ∈ wsX6_ofContract := by decide +kernel
set_option maxHeartbeats 4000000 in
set_option maxRecDepth 100000 in
theorem x1_X6_ofContract (l : Launch) {D : va_G} {y : Nat → Nat} {ws : va_W} {x_off_1 : Value} {x_off_2 : Value} {x_off_3 : Value} {x_off_4 : Value} {x_off_5 : Value} {x_ctl_0 : Value} {p_off p_ctl p_cta a_off a_ctl a_cta a_led : Nat} {qc : Nat → Option Nat} {nw k : Nat} {x : Int32} {nc capc : Nat} {adc pk fw lag trig : Nat → Nat} {fl : Nat → Bool} {fm : Nat → Nat} {cs : Nat → Nat × Nat × Nat × Nat} (f0_off : ws[p_off]? = some (a_off, .inr (7, [.ref a_led, x_off_1, x_off_2, x_off_3, x_off_4, x_off_5, .ref a_ctl, .int (nI (nw))]))) (f0_ctl : ws[p_ctl]? = some (a_ctl, .inr (0, [x_ctl_0, .ref a_cta, .int (nI (nc))]))) (f0_cta : ws[p_cta]? = some (a_cta, eQ y capc qc)) (hfl : l.stackTraces = false) (hc : nc ≤ 10) (hk : k < nc) (hCt : gCt ws nc capc qc adc pk fw lag trig fl fm cs) (hbad : x.toInt < 0 ∨ 3 < x.toInt) : gMxl l yX6_ofContract wsX6_ofContract ({ frames := 6, cells := 1, slots := 6, locals := 100 }) D y [.ref a_off, .int (nI (k)), .int (x)] ws "java/lang/IndexOutOfBoundsException" := by
  refine g_metx_l (cc := cX6_ofContract) (maxL := 4) (by decide) rfl (Nat.le_of_ble_eq_true rfl) ?_
  intro p e s m below meth c A hx hb hml hr hts hown hnm hlocks hE hP hD hS hA hex hX ls hl
  have hown : s.vm.findClass RX6 = some m.cls := hown
  have hl : lv_has ls 4 [(0, .ref a_off), (1, .int (nI (k))), (2, .int (x))] := hl
  have in_RX6 := in_x1_X6_ofContract_RX6
  have hCtc := hCt
  refine lv_aload_n hx hb dX6_ofContract_0 rfl (lv_at hl 0 rfl) ?_
  refine lv_iload_n hx hb dX6_ofContract_1 rfl (lv_at hl 1 rfl) ?_
  refine gc_V_v (As := [.int (nI (k))]) (rest := []) (c_X6_requireContract l f0_off f0_ctl (rq_lt hk (by omega))) ⟨hx, hb, hml, hown, hts⟩ (cwV 1 hts gX6_ofContract_X6_requireContract rfl rfl rfl (by decide +kernel) ⟨Nat.le_of_ble_eq_true rfl, Nat.le_of_ble_eq_true rfl⟩) hE hP hD hS hA _ f0_off rfl rfl rfl rfl hl.1 (Nat.le_of_ble_eq_true rfl) dX6_ofContract_2 ⟨Nat.le_of_ble_eq_true rfl, Nat.le_of_ble_eq_true rfl⟩ (fun u_2 H locs hP hD hS q_2 => ?_)
  refine lv_aload_n hx hb dX6_ofContract_5 rfl (lv_at hl 0 rfl) ?_
  refine va_get (D := D) (ci := 7) (v := .ref a_ctl) (C := RX6) (T := TX6) (N := 8) hx hb hts in_RX6 hown hE.1 (gv1 hP f0_off) 0 rfl rfl 6 (by decide) (hts (.fieldLink RX6 45 "BasketryOffice" "contracts" "Ljava/util/ArrayList;") (by decide +kernel)) (fun _ h9 => h9) rfl dX6_ofContract_6 ?_
  refine lv_iload_n hx hb dX6_ofContract_9 rfl (lv_at hl 1 rfl) ?_
  refine gc_V_r (As := [.int (nI (k))]) (rest := []) (c_Jx4a65c_get_915e3 l f0_ctl f0_cta hk hCt.1 hCt.2.1 (hCt.2.2.1 _ hk)) ⟨hx, hb, hml, hown, hts⟩ (cwV 1 hts gX6_ofContract_Jx4a65c_get_915e3 rfl rfl rfl (by decide +kernel) ⟨Nat.le_of_ble_eq_true rfl, Nat.le_of_ble_eq_true rfl⟩) hE hP hD hS hA _ f0_ctl rfl rfl rfl rfl hl.1 (Nat.le_of_ble_eq_true rfl) dX6_ofContract_10 ⟨Nat.le_of_ble_eq_true rfl, Nat.le_of_ble_eq_true rfl⟩ (fun r_10 u_10 H locs hP hD hS q_10 => ?_)
  subst q_10
  have f0_con := hCt.2.2.2 (k) hk
  refine va_castS hx hb hown (hts (.classLink RX6 160 RX0) (by decide +kernel)) (hE.1.1 1 _ rfl).2 (gv_recv hE.1 hP rfl f0_con) dX6_ofContract_13 ?_
  refine lv_astore_n (lv' := [(3, .ref (adc (k))), (0, .ref a_off), (1, .int (nI (k))), (2, .int (x))]) hx hb dX6_ofContract_16 rfl hl (by decide) rfl (fun ls hl => ?_)
  refine lv_iload_n hx hb dX6_ofContract_17 rfl (lv_at hl 3 rfl) ?_
  refine lv_tableOut (tgt := 69) hx hb dX6_ofContract_18 hbad (by decide) ?_
  exact g_throwS hx hb hfl (cls := "java/lang/IndexOutOfBoundsException") (text := "nothing of that kind is told of a contract") (names := ["java/lang/RuntimeException", "java/lang/Exception"]) (ik := 133) (is := 239) (ic := 137) hown (by decide +kernel) htex_137 (hts (.classLink RX6 133 "java/lang/IndexOutOfBoundsException") (by decide +kernel)) (hts (.initialized "java/lang/IndexOutOfBoundsException") (by decide +kernel)) (by decide +kernel) (fun w hw => hts w (inx_x1_X6_ofContract_137 w hw)) hat2_137 (vx_c (va_Nw.use rfl (hE.2 _ hnest_137)) (vx_c (va_Nw.use rfl (hE.2 _ hnest_r)) (vx_c (va_Nw.use rfl (hE.2 _ hnest_e)) (vx_c (va_Nw.use rfl (hE.2 _ hnest_t)) vx_n)))) hgood_137 hX hS hP hD (hl.1.trans hml.symm) hex hlocks dX6_ofContract_69 dX6_ofContract_72 dX6_ofContract_73 dX6_ofContract_75 dX6_ofContract_78 (Nat.le_of_ble_eq_true rfl) (Nat.le_of_ble_eq_true rfl) (Nat.le_of_ble_eq_true rfl) (Nat.le_of_ble_eq_true rfl) (Nat.le_of_ble_eq_true rfl) (Nat.le_of_ble_eq_true rfl)
