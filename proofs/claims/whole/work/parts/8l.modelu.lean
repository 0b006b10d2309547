theorem payS_tc {lag trig : Nat} {fl : Bool} {num : Nat → Nat} {t : Nat} {c : Nat × Nat × Nat × Nat} (h1 : lag ≤ t) (h2 : c.2.2.1 < t - lag) (h3 : tie c.2.1 trig fl (num (t - lag)) = true) : payS lag trig fl num t c = (pW c.1 (num (t - lag)) c.2.1, num (t - lag), t - lag, c.2.2.2 + pW c.1 (num (t - lag)) c.2.1) := if_pos ⟨h1, h2, h3⟩
theorem payS_fc {lag trig : Nat} {fl : Bool} {num : Nat → Nat} {t : Nat} {c : Nat × Nat × Nat × Nat} (h : t < lag ∨ t - lag ≤ c.2.2.1 ∨ tie c.2.1 trig fl (num (t - lag)) = false) : payS lag trig fl num t c = (c.1, c.2.1, c.2.2.1, c.2.2.2 + c.1) := if_neg (fun z => by
  have h1 : lag ≤ t := z.1
  have h2 := z.2.1
  have h3 := z.2.2
  rcases h with q | q | q
  · omega
  · omega
  · rw [q] at h3; cases h3)
theorem payS_ge {lag trig t N : Nat} {fl : Bool} {num : Nat → Nat} {c : Nat × Nat × Nat × Nat} (hn : ∀ q, q < N → 1 ≤ num q) (ht : t < N) (h : 1 ≤ c.2.1) : 1 ≤ (payS lag trig fl num t c).2.1 := by
  unfold payS
  split
  · exact hn _ (by omega)
  · exact h
theorem paR_ge {fw lag trig : Nat} {fl : Bool} {fm N : Nat} {num : Nat → Nat} (hn : ∀ q, q < N → 1 ≤ num q) (hfm : fm < N) : ∀ j, fm + j < N → 1 ≤ (paR fw lag trig fl fm num j).2.1
  | 0, _ => hn _ hfm
  | j + 1, hj => payS_ge hn (by omega) (paR_ge hn hfm j (by omega))
theorem in_x0_X7_doubts_RX7 : ∀ w ∈ wsX70, w ∈ wsX7_doubts := by decide +kernel
set_option maxHeartbeats 4000000 in
set_option maxRecDepth 100000 in
theorem x0_X7_doubts (l : Launch) {D : va_G} {y : Nat → Nat} {ws : va_W} {x_mod_2 : Value} {x_mod_3 : Value} {x_mod_4 : Value} {x_mod_6 : Value} {x_mod_7 : Value} {x_mod_8 : Value} {x_mod_9 : Value} {x_mod_10 : Value} {x_mod_11 : Value} {x_mod_12 : Value} {x_mod_13 : Value} {x_mod_14 : Value} {x_mod_15 : Value} {x_mod_16 : Value} {x_mod_17 : Value} {x_mod_18 : Value} {x_mod_19 : Value} {x_mod_20 : Value} {x_mod_21 : Value} {x_mod_22 : Value} {x_mod_23 : Value} {x_mod_24 : Value} {x_mod_25 : Value} {x_mod_26 : Value} {x_mod_27 : Value} {x_mod_28 : Value} {x_mod_29 : Value} {x_mod_30 : Value} {x_mod_31 : Value} {x_mod_32 : Value} {p_mod a_mod : Nat} {t : Int32} {nw n th : Nat} (f0_mod : ws[p_mod]? = some (a_mod, .inr (8, .int (nI (th)) :: .int (nI (n)) :: x_mod_2 :: x_mod_3 :: x_mod_4 :: .int (nI (nw)) :: x_mod_6 :: x_mod_7 :: x_mod_8 :: x_mod_9 :: x_mod_10 :: x_mod_11 :: x_mod_12 :: x_mod_13 :: x_mod_14 :: x_mod_15 :: x_mod_16 :: x_mod_17 :: x_mod_18 :: x_mod_19 :: x_mod_20 :: x_mod_21 :: x_mod_22 :: x_mod_23 :: x_mod_24 :: x_mod_25 :: x_mod_26 :: x_mod_27 :: x_mod_28 :: x_mod_29 :: x_mod_30 :: x_mod_31 :: x_mod_32 :: []))) (hw : nw ≤ 24) (hn : n ≤ 12)  (hbad : t < 0 ∨ nI nw ≤ t) : gMi l yX7_doubts wsX7_doubts ({ frames := 2, cells := 0, slots := 0, locals := 43 }) D y [.ref a_mod, .int (t)] ws (fun r (_ : Unit) => r = nI 0) (fun (_ : Unit) => (ws.set p_mod (a_mod, .inr (8, .int (nI (1)) :: .int (nI (n)) :: x_mod_2 :: x_mod_3 :: x_mod_4 :: .int (nI (nw)) :: x_mod_6 :: x_mod_7 :: x_mod_8 :: x_mod_9 :: x_mod_10 :: x_mod_11 :: x_mod_12 :: x_mod_13 :: x_mod_14 :: x_mod_15 :: x_mod_16 :: x_mod_17 :: x_mod_18 :: x_mod_19 :: x_mod_20 :: x_mod_21 :: x_mod_22 :: x_mod_23 :: x_mod_24 :: x_mod_25 :: x_mod_26 :: x_mod_27 :: x_mod_28 :: x_mod_29 :: x_mod_30 :: x_mod_31 :: x_mod_32 :: [])))) := by
  refine g_met_i (cc := cX7_doubts) (maxL := 5) (by decide) rfl (Nat.le_of_ble_eq_true rfl) ?_
  intro p e s m below meth c A hx hb hml hr hts hown hnm hlocks hE hP hD hS hA ls hl
  have hown : s.vm.findClass RX7 = some m.cls := hown
  have hl : lv_has ls 5 [(0, .ref a_mod), (1, .int (t))] := hl
  have in_RX7 := in_x0_X7_doubts_RX7
  refine lv_aload_n hx hb dX7_doubts_0 rfl (lv_at hl 0 rfl) ?_
  refine lv_aload_n hx hb dX7_doubts_1 rfl (lv_at hl 0 rfl) ?_
  refine lv_iload_n hx hb dX7_doubts_2 rfl (lv_at hl 1 rfl) ?_
  refine gc_V_i (As := [.int (t)]) (rest := [.ref a_mod]) (c_X7_isPublished l f0_mod (by omega)) ⟨hx, hb, hml, hown, hts⟩ (cwV 1 hts gX7_doubts_X7_isPublished rfl rfl rfl (by decide +kernel) ⟨Nat.le_of_ble_eq_true rfl, Nat.le_of_ble_eq_true rfl⟩) hE hP hD hS hA _ f0_mod rfl rfl rfl rfl hl.1 (Nat.le_of_ble_eq_true rfl) dX7_doubts_3 ⟨Nat.le_of_ble_eq_true rfl, Nat.le_of_ble_eq_true rfl⟩ (fun r_3 u_3 H locs hP hD hS q_3 => ?_)
  subst q_3
  refine g_bif_eq (tgt := 13) hx hb dX7_doubts_6 (by decide) (fun c_6 => ?_) (fun c_6 => absurd c_6 (by rw [decide_eq_false (fun z => z hbad)]; decide))
  refine lv_iconst (v := nI 1) hx hb dX7_doubts_13 (by decide) ?_
  refine gv_set f0_mod rfl (by rfl) (fun k9 h9 kk9 => va_put (D := D) (ci := 8) (v := .int (nI (1))) (ty := .int) (C := RX7) (T := TX7) (N := 33) hx hb hts in_RX7 tyX7 tyX7_ok nmX7 hown hE.1 hP hD hS k9 h9 rfl 0 (by decide) (hts (.fieldLink RX7 94 "BasketryOfficeModel" "thrown" "I") (by decide +kernel)) (fun _ h9 => h9) rfl (by decide +kernel) rfl rfl (Nat.le_of_ble_eq_true rfl) dX7_doubts_14 kk9) (fun H locs hP hD hS => ?_)
  refine lv_iconst (v := nI 0) hx hb dX7_doubts_17 (by decide) ?_
  refine lv_istore_n (lv' := [(2, .int (nI (0))), (0, .ref a_mod), (1, .int (t))]) hx hb dX7_doubts_18 rfl hl (by decide) rfl (fun ls hl => ?_)
  refine lv_iconst (v := nI 0) hx hb dX7_doubts_19 (by decide) ?_
  refine lv_istore_n (lv' := [(3, .int (nI (0))), (2, .int (nI (0))), (0, .ref a_mod), (1, .int (t))]) hx hb dX7_doubts_20 rfl hl (by decide) rfl (fun ls hl => ?_)
  refine lv_iload_n hx hb dX7_doubts_21 rfl (lv_at hl 0 rfl) ?_
  refine lv_iconst (v := nI 4) hx hb dX7_doubts_22 (by decide) ?_
  refine lv_aload_n hx hb dX7_doubts_23 rfl (lv_at hl 2 rfl) ?_
  have f_mod := g_eq (x := (a_mod, .inr (8, .int (nI (1)) :: .int (nI (n)) :: x_mod_2 :: x_mod_3 :: x_mod_4 :: .int (nI (nw)) :: x_mod_6 :: x_mod_7 :: x_mod_8 :: x_mod_9 :: x_mod_10 :: x_mod_11 :: x_mod_12 :: x_mod_13 :: x_mod_14 :: x_mod_15 :: x_mod_16 :: x_mod_17 :: x_mod_18 :: x_mod_19 :: x_mod_20 :: x_mod_21 :: x_mod_22 :: x_mod_23 :: x_mod_24 :: x_mod_25 :: x_mod_26 :: x_mod_27 :: x_mod_28 :: x_mod_29 :: x_mod_30 :: x_mod_31 :: x_mod_32 :: []))) (f0_mod)
  refine va_get (D := D) (ci := 8) (v := .int (nI (n))) (C := RX7) (T := TX7) (N := 33) hx hb hts in_RX7 hown hE.1 (gv1 hP f_mod) 0 rfl rfl 1 (by decide) (hts (.fieldLink RX7 98 "BasketryOfficeModel" "items" "I") (by decide +kernel)) (fun _ h9 => h9) rfl dX7_doubts_24 ?_
  refine g_imul hx hb dX7_doubts_27 (pk_mul _ _) ?_
  refine g_icmp_ge (tgt := 109) hx hb (by omega) (by omega) dX7_doubts_28 (by decide) (fun c_28 => ?_) (fun c_28 => ?_)
  · refine lv_iload_n hx hb dX7_doubts_109 rfl (lv_at hl 1 rfl) ?_
    refine g_iret hx hb hr hlocks () dX7_doubts_110 hS hP hD ?_
    exact rfl
  · refine lv_aload_n hx hb dX7_doubts_31 rfl (lv_at hl 2 rfl) ?_
    refine va_get (D := D) (ci := 8) (v := .int (nI (1))) (C := RX7) (T := TX7) (N := 33) hx hb hts in_RX7 hown hE.1 (gv1 hP f_mod) 0 rfl rfl 0 (by decide) (hts (.fieldLink RX7 94 "BasketryOfficeModel" "thrown" "I") (by decide +kernel)) (fun _ h9 => h9) rfl dX7_doubts_32 ?_
    refine g_if_ne (tgt := 109) hx hb (by omega) dX7_doubts_35 (by decide) (fun c_35 => ?_) (fun c_35 => absurd c_35 (by omega))
    refine lv_iload_n hx hb dX7_doubts_109 rfl (lv_at hl 1 rfl) ?_
    refine g_iret hx hb hr hlocks () dX7_doubts_110 hS hP hD ?_
    exact rfl

theorem in_c_X7_doubts_RX7 : ∀ w ∈ wsX70, w ∈ wsX7_doubts := by decide +kernel
set_option maxHeartbeats 4000000 in
set_option maxRecDepth 100000 in
theorem c_X7_doubts (l : Launch) {D : va_G} {y : Nat → Nat} {ws : va_W} {x_mod_2 : Value} {x_mod_3 : Value} {x_mod_4 : Value} {x_mod_6 : Value} {x_mod_7 : Value} {x_mod_9 : Value} {x_mod_10 : Value} {x_mod_11 : Value} {x_mod_14 : Value} {x_mod_15 : Value} {x_mod_16 : Value} {x_mod_19 : Value} {x_mod_20 : Value} {x_mod_21 : Value} {x_mod_22 : Value} {x_mod_23 : Value} {x_mod_24 : Value} {x_mod_25 : Value} {x_mod_26 : Value} {x_mod_27 : Value} {x_mod_28 : Value} {x_mod_29 : Value} {x_mod_30 : Value} {x_mod_31 : Value} {x_mod_32 : Value} {p_mod p_mce p_mlc p_mlg p_mpr p_mim a_mod a_mce a_mlc a_mlg a_mpr a_mim : Nat} {mce : Nat → Nat} {mlc : Nat → Nat} {mlg : Nat → Nat} {mpr : Nat → UInt64} {mim : Nat → Bool} {t : Nat} {nw n th : Nat} (f0_mod : ws[p_mod]? = some (a_mod, .inr (8, .int (nI (th)) :: .int (nI (n)) :: x_mod_2 :: x_mod_3 :: x_mod_4 :: .int (nI (nw)) :: x_mod_6 :: x_mod_7 :: .ref a_mce :: x_mod_9 :: x_mod_10 :: x_mod_11 :: .ref a_mlc :: .ref a_mlg :: x_mod_14 :: x_mod_15 :: x_mod_16 :: .ref a_mpr :: .ref a_mim :: x_mod_19 :: x_mod_20 :: x_mod_21 :: x_mod_22 :: x_mod_23 :: x_mod_24 :: x_mod_25 :: x_mod_26 :: x_mod_27 :: x_mod_28 :: x_mod_29 :: x_mod_30 :: x_mod_31 :: x_mod_32 :: []))) (f0_mce : ws[p_mce]? = some (a_mce, eN y 1152 mce)) (f0_mlc : ws[p_mlc]? = some (a_mlc, eN y 1152 mlc)) (f0_mlg : ws[p_mlg]? = some (a_mlg, eN y 1152 mlg)) (f0_mpr : ws[p_mpr]? = some (a_mpr, eD y 2304 mpr)) (f0_mim : ws[p_mim]? = some (a_mim, eZ y 2304 mim)) (b_mce : ∀ k, mce k ≤ 100000) (b_mlc : ∀ k, mlc k ≤ 100000) (b_mlg : ∀ k, mlg k ≤ 10000) (hw : nw ≤ 24) (hn : n ≤ 12) (ht : t < nw) (hlg : ∀ k, mlg k = 0 → mlc k = 0) : gMi l yX7_doubts wsX7_doubts ({ frames := 2, cells := 0, slots := 0, locals := 47 }) D y [.ref a_mod, .int (nI (t))] ws (fun r (_ : Unit) => r = nI (dbF mim mce (sBase mlc mlg mpr) (t * 48) (4 * n))) (fun (_ : Unit) => (ws.set p_mod (a_mod, .inr (8, .int (nI (0)) :: .int (nI (n)) :: x_mod_2 :: x_mod_3 :: x_mod_4 :: .int (nI (nw)) :: x_mod_6 :: x_mod_7 :: .ref a_mce :: x_mod_9 :: x_mod_10 :: x_mod_11 :: .ref a_mlc :: .ref a_mlg :: x_mod_14 :: x_mod_15 :: x_mod_16 :: .ref a_mpr :: .ref a_mim :: x_mod_19 :: x_mod_20 :: x_mod_21 :: x_mod_22 :: x_mod_23 :: x_mod_24 :: x_mod_25 :: x_mod_26 :: x_mod_27 :: x_mod_28 :: x_mod_29 :: x_mod_30 :: x_mod_31 :: x_mod_32 :: [])))) := by
  refine g_met_i (cc := cX7_doubts) (maxL := 5) (by decide) rfl (Nat.le_of_ble_eq_true rfl) ?_
  intro p e s m below meth c A hx hb hml hr hts hown hnm hlocks hE hP hD hS hA ls hl
  have hown : s.vm.findClass RX7 = some m.cls := hown
  have hl : lv_has ls 5 [(0, .ref a_mod), (1, .int (nI (t)))] := hl
  have in_RX7 := in_c_X7_doubts_RX7
  refine lv_aload_n hx hb dX7_doubts_0 rfl (lv_at hl 0 rfl) ?_
  refine lv_aload_n hx hb dX7_doubts_1 rfl (lv_at hl 0 rfl) ?_
  refine lv_iload_n hx hb dX7_doubts_2 rfl (lv_at hl 1 rfl) ?_
  refine gc_V_i (As := [.int (nI (t))]) (rest := [.ref a_mod]) (c_X7_isPublished l f0_mod (by omega)) ⟨hx, hb, hml, hown, hts⟩ (cwV 1 hts gX7_doubts_X7_isPublished rfl rfl rfl (by decide +kernel) ⟨Nat.le_of_ble_eq_true rfl, Nat.le_of_ble_eq_true rfl⟩) hE hP hD hS hA _ f0_mod rfl rfl rfl rfl hl.1 (Nat.le_of_ble_eq_true rfl) dX7_doubts_3 ⟨Nat.le_of_ble_eq_true rfl, Nat.le_of_ble_eq_true rfl⟩ (fun r_3 u_3 H locs hP hD hS q_3 => ?_)
  subst q_3
  refine g_bif_eq (tgt := 13) hx hb dX7_doubts_6 (by decide) (fun c_6 => absurd c_6 (by rw [decide_eq_true (rq_lt ht (by omega))]; decide)) (fun c_6 => ?_)
  refine lv_iconst (v := nI 0) hx hb dX7_doubts_9 (by decide) ?_
  refine lv_goto (tgt := 14) hx hb dX7_doubts_10 (by decide) ?_
  refine gv_set f0_mod rfl (by rfl) (fun k9 h9 kk9 => va_put (D := D) (ci := 8) (v := .int (nI (0))) (ty := .int) (C := RX7) (T := TX7) (N := 33) hx hb hts in_RX7 tyX7 tyX7_ok nmX7 hown hE.1 hP hD hS k9 h9 rfl 0 (by decide) (hts (.fieldLink RX7 94 "BasketryOfficeModel" "thrown" "I") (by decide +kernel)) (fun _ h9 => h9) rfl (by decide +kernel) rfl rfl (Nat.le_of_ble_eq_true rfl) dX7_doubts_14 kk9) (fun H locs hP hD hS => ?_)
  refine lv_iconst (v := nI 0) hx hb dX7_doubts_17 (by decide) ?_
  refine lv_istore_n (lv' := [(2, .int (nI (0))), (0, .ref a_mod), (1, .int (nI (t)))]) hx hb dX7_doubts_18 rfl hl (by decide) rfl (fun ls hl => ?_)
  refine lv_iconst (v := nI 0) hx hb dX7_doubts_19 (by decide) ?_
  refine lv_istore_n (lv' := [(3, .int (nI (0))), (2, .int (nI (0))), (0, .ref a_mod), (1, .int (nI (t)))]) hx hb dX7_doubts_20 rfl hl (by decide) rfl (fun ls hl => ?_)
  have hP : gvP D vwCl (ws.set p_mod (a_mod, .inr (8, .int (nI (0)) :: .int (nI (n)) :: x_mod_2 :: x_mod_3 :: x_mod_4 :: .int (nI (nw)) :: x_mod_6 :: x_mod_7 :: .ref a_mce :: x_mod_9 :: x_mod_10 :: x_mod_11 :: .ref a_mlc :: .ref a_mlg :: x_mod_14 :: x_mod_15 :: x_mod_16 :: .ref a_mpr :: .ref a_mim :: x_mod_19 :: x_mod_20 :: x_mod_21 :: x_mod_22 :: x_mod_23 :: x_mod_24 :: x_mod_25 :: x_mod_26 :: x_mod_27 :: x_mod_28 :: x_mod_29 :: x_mod_30 :: x_mod_31 :: x_mod_32 :: []))) _ := g_trP (rfl) hP
  have hD : gvD A (ws.set p_mod (a_mod, .inr (8, .int (nI (0)) :: .int (nI (n)) :: x_mod_2 :: x_mod_3 :: x_mod_4 :: .int (nI (nw)) :: x_mod_6 :: x_mod_7 :: .ref a_mce :: x_mod_9 :: x_mod_10 :: x_mod_11 :: .ref a_mlc :: .ref a_mlg :: x_mod_14 :: x_mod_15 :: x_mod_16 :: .ref a_mpr :: .ref a_mim :: x_mod_19 :: x_mod_20 :: x_mod_21 :: x_mod_22 :: x_mod_23 :: x_mod_24 :: x_mod_25 :: x_mod_26 :: x_mod_27 :: x_mod_28 :: x_mod_29 :: x_mod_30 :: x_mod_31 :: x_mod_32 :: []))) := g_trD (rfl) hD
  refine g_for (fun j => (ws.set p_mod (a_mod, .inr (8, .int (nI (0)) :: .int (nI (n)) :: x_mod_2 :: x_mod_3 :: x_mod_4 :: .int (nI (nw)) :: x_mod_6 :: x_mod_7 :: .ref a_mce :: x_mod_9 :: x_mod_10 :: x_mod_11 :: .ref a_mlc :: .ref a_mlg :: x_mod_14 :: x_mod_15 :: x_mod_16 :: .ref a_mpr :: .ref a_mim :: x_mod_19 :: x_mod_20 :: x_mod_21 :: x_mod_22 :: x_mod_23 :: x_mod_24 :: x_mod_25 :: x_mod_26 :: x_mod_27 :: x_mod_28 :: x_mod_29 :: x_mod_30 :: x_mod_31 :: x_mod_32 :: [])))) (fun j => [(0, .ref a_mod), (1, .int (nI (t))), (2, .int (nI (dbF mim mce (sBase mlc mlg mpr) (t * 48) (j)))), (3, .int (nI (j)))]) (4 * n) (0) (by omega) ?_ ?_ hP hD hS (lv_sub hl [2, 3, 1, 0] rfl)
  · intro H locs ls hP hD hS hl
    have hP : gvP D vwCl (ws.set p_mod (a_mod, .inr (8, .int (nI (0)) :: .int (nI (n)) :: x_mod_2 :: x_mod_3 :: x_mod_4 :: .int (nI (nw)) :: x_mod_6 :: x_mod_7 :: .ref a_mce :: x_mod_9 :: x_mod_10 :: x_mod_11 :: .ref a_mlc :: .ref a_mlg :: x_mod_14 :: x_mod_15 :: x_mod_16 :: .ref a_mpr :: .ref a_mim :: x_mod_19 :: x_mod_20 :: x_mod_21 :: x_mod_22 :: x_mod_23 :: x_mod_24 :: x_mod_25 :: x_mod_26 :: x_mod_27 :: x_mod_28 :: x_mod_29 :: x_mod_30 :: x_mod_31 :: x_mod_32 :: []))) H := hP
    have hD : gvD A (ws.set p_mod (a_mod, .inr (8, .int (nI (0)) :: .int (nI (n)) :: x_mod_2 :: x_mod_3 :: x_mod_4 :: .int (nI (nw)) :: x_mod_6 :: x_mod_7 :: .ref a_mce :: x_mod_9 :: x_mod_10 :: x_mod_11 :: .ref a_mlc :: .ref a_mlg :: x_mod_14 :: x_mod_15 :: x_mod_16 :: .ref a_mpr :: .ref a_mim :: x_mod_19 :: x_mod_20 :: x_mod_21 :: x_mod_22 :: x_mod_23 :: x_mod_24 :: x_mod_25 :: x_mod_26 :: x_mod_27 :: x_mod_28 :: x_mod_29 :: x_mod_30 :: x_mod_31 :: x_mod_32 :: []))) := hD
    have hl : lv_has ls 5 [(0, .ref a_mod), (1, .int (nI (t))), (2, .int (nI (dbF mim mce (sBase mlc mlg mpr) (t * 48) (4 * n)))), (3, .int (nI (4 * n)))] := hl
    refine lv_iload_n hx hb dX7_doubts_21 rfl (lv_at hl 3 rfl) ?_
    refine lv_iconst (v := nI 4) hx hb dX7_doubts_22 (by decide) ?_
    refine lv_aload_n hx hb dX7_doubts_23 rfl (lv_at hl 0 rfl) ?_
    have f_mod := g_eq (x := (a_mod, .inr (8, .int (nI (0)) :: .int (nI (n)) :: x_mod_2 :: x_mod_3 :: x_mod_4 :: .int (nI (nw)) :: x_mod_6 :: x_mod_7 :: .ref a_mce :: x_mod_9 :: x_mod_10 :: x_mod_11 :: .ref a_mlc :: .ref a_mlg :: x_mod_14 :: x_mod_15 :: x_mod_16 :: .ref a_mpr :: .ref a_mim :: x_mod_19 :: x_mod_20 :: x_mod_21 :: x_mod_22 :: x_mod_23 :: x_mod_24 :: x_mod_25 :: x_mod_26 :: x_mod_27 :: x_mod_28 :: x_mod_29 :: x_mod_30 :: x_mod_31 :: x_mod_32 :: []))) (f0_mod)
    refine va_get (D := D) (ci := 8) (v := .int (nI (n))) (C := RX7) (T := TX7) (N := 33) hx hb hts in_RX7 hown hE.1 (gv1 hP f_mod) 0 rfl rfl 1 (by decide) (hts (.fieldLink RX7 98 "BasketryOfficeModel" "items" "I") (by decide +kernel)) (fun _ h9 => h9) rfl dX7_doubts_24 ?_
    refine g_imul hx hb dX7_doubts_27 (pk_mul _ _) ?_
    refine g_icmp_ge (tgt := 109) hx hb (by omega) (by omega) dX7_doubts_28 (by decide) (fun c_28 => ?_) (fun c_28 => absurd c_28 (by omega))
    refine lv_iload_n hx hb dX7_doubts_109 rfl (lv_at hl 2 rfl) ?_
    refine g_iret hx hb hr hlocks () dX7_doubts_110 hS hP hD ?_
    exact rfl
  · intro j hj_j ih_j H locs ls hP hD hS hl
    have hP : gvP D vwCl (ws.set p_mod (a_mod, .inr (8, .int (nI (0)) :: .int (nI (n)) :: x_mod_2 :: x_mod_3 :: x_mod_4 :: .int (nI (nw)) :: x_mod_6 :: x_mod_7 :: .ref a_mce :: x_mod_9 :: x_mod_10 :: x_mod_11 :: .ref a_mlc :: .ref a_mlg :: x_mod_14 :: x_mod_15 :: x_mod_16 :: .ref a_mpr :: .ref a_mim :: x_mod_19 :: x_mod_20 :: x_mod_21 :: x_mod_22 :: x_mod_23 :: x_mod_24 :: x_mod_25 :: x_mod_26 :: x_mod_27 :: x_mod_28 :: x_mod_29 :: x_mod_30 :: x_mod_31 :: x_mod_32 :: []))) H := hP
    have hD : gvD A (ws.set p_mod (a_mod, .inr (8, .int (nI (0)) :: .int (nI (n)) :: x_mod_2 :: x_mod_3 :: x_mod_4 :: .int (nI (nw)) :: x_mod_6 :: x_mod_7 :: .ref a_mce :: x_mod_9 :: x_mod_10 :: x_mod_11 :: .ref a_mlc :: .ref a_mlg :: x_mod_14 :: x_mod_15 :: x_mod_16 :: .ref a_mpr :: .ref a_mim :: x_mod_19 :: x_mod_20 :: x_mod_21 :: x_mod_22 :: x_mod_23 :: x_mod_24 :: x_mod_25 :: x_mod_26 :: x_mod_27 :: x_mod_28 :: x_mod_29 :: x_mod_30 :: x_mod_31 :: x_mod_32 :: []))) := hD
    have hl : lv_has ls 5 [(0, .ref a_mod), (1, .int (nI (t))), (2, .int (nI (dbF mim mce (sBase mlc mlg mpr) (t * 48) (j)))), (3, .int (nI (j)))] := hl
    refine lv_iload_n hx hb dX7_doubts_21 rfl (lv_at hl 3 rfl) ?_
    refine lv_iconst (v := nI 4) hx hb dX7_doubts_22 (by decide) ?_
    refine lv_aload_n hx hb dX7_doubts_23 rfl (lv_at hl 0 rfl) ?_
    have f_mod := g_eq (x := (a_mod, .inr (8, .int (nI (0)) :: .int (nI (n)) :: x_mod_2 :: x_mod_3 :: x_mod_4 :: .int (nI (nw)) :: x_mod_6 :: x_mod_7 :: .ref a_mce :: x_mod_9 :: x_mod_10 :: x_mod_11 :: .ref a_mlc :: .ref a_mlg :: x_mod_14 :: x_mod_15 :: x_mod_16 :: .ref a_mpr :: .ref a_mim :: x_mod_19 :: x_mod_20 :: x_mod_21 :: x_mod_22 :: x_mod_23 :: x_mod_24 :: x_mod_25 :: x_mod_26 :: x_mod_27 :: x_mod_28 :: x_mod_29 :: x_mod_30 :: x_mod_31 :: x_mod_32 :: []))) (f0_mod)
    refine va_get (D := D) (ci := 8) (v := .int (nI (n))) (C := RX7) (T := TX7) (N := 33) hx hb hts in_RX7 hown hE.1 (gv1 hP f_mod) 0 rfl rfl 1 (by decide) (hts (.fieldLink RX7 98 "BasketryOfficeModel" "items" "I") (by decide +kernel)) (fun _ h9 => h9) rfl dX7_doubts_24 ?_
    refine g_imul hx hb dX7_doubts_27 (pk_mul _ _) ?_
    refine g_icmp_ge (tgt := 109) hx hb (by omega) (by omega) dX7_doubts_28 (by decide) (fun c_28 => absurd c_28 (by omega)) (fun c_28 => ?_)
    refine lv_aload_n hx hb dX7_doubts_31 rfl (lv_at hl 0 rfl) ?_
    refine va_get (D := D) (ci := 8) (v := .int (nI (0))) (C := RX7) (T := TX7) (N := 33) hx hb hts in_RX7 hown hE.1 (gv1 hP f_mod) 0 rfl rfl 0 (by decide) (hts (.fieldLink RX7 94 "BasketryOfficeModel" "thrown" "I") (by decide +kernel)) (fun _ h9 => h9) rfl dX7_doubts_32 ?_
    refine g_if_ne (tgt := 109) hx hb (by omega) dX7_doubts_35 (by decide) (fun c_35 => absurd c_35 (by omega)) (fun c_35 => ?_)
    refine lv_aload_n hx hb dX7_doubts_38 rfl (lv_at hl 0 rfl) ?_
    refine va_get (D := D) (ci := 8) (v := .ref a_mce) (C := RX7) (T := TX7) (N := 33) hx hb hts in_RX7 hown hE.1 (gv1 hP f_mod) 0 rfl rfl 8 (by decide) (hts (.fieldLink RX7 19 "BasketryOfficeModel" "cents" "[I") (by decide +kernel)) (fun _ h9 => h9) rfl dX7_doubts_39 ?_
    refine lv_bipush (v := nI 48) hx hb dX7_doubts_42 (by decide) ?_
    refine lv_iload_n hx hb dX7_doubts_44 rfl (lv_at hl 1 rfl) ?_
    refine g_imul hx hb dX7_doubts_45 (pk_mul _ _) ?_
    refine lv_iload_n hx hb dX7_doubts_46 rfl (lv_at hl 3 rfl) ?_
    refine g_iadd hx hb dX7_doubts_47 (nI_add _ _) ?_
    have f_mce := g_ne (x := (a_mod, .inr (8, .int (nI (0)) :: .int (nI (n)) :: x_mod_2 :: x_mod_3 :: x_mod_4 :: .int (nI (nw)) :: x_mod_6 :: x_mod_7 :: .ref a_mce :: x_mod_9 :: x_mod_10 :: x_mod_11 :: .ref a_mlc :: .ref a_mlg :: x_mod_14 :: x_mod_15 :: x_mod_16 :: .ref a_mpr :: .ref a_mim :: x_mod_19 :: x_mod_20 :: x_mod_21 :: x_mod_22 :: x_mod_23 :: x_mod_24 :: x_mod_25 :: x_mod_26 :: x_mod_27 :: x_mod_28 :: x_mod_29 :: x_mod_30 :: x_mod_31 :: x_mod_32 :: []))) (g_kne f0_mod f0_mce (Nat.ne_of_beq_eq_false rfl)) (f0_mce)
    refine g_nald hx hb hE hP _ f_mce (by omega) (by decide) dX7_doubts_48 ?_
    have bd_48_1 := b_mce ((48 * t) + j)
    refine g_iv (v' := nI (mce (t * 48 + j))) (congrArg nI (congrArg mce (by omega))) ?_
    have bd9 := b_mce (t * 48 + j)
    refine g_if_le (tgt := 73) hx hb (by omega) dX7_doubts_49 (by decide) (fun c_49 => ?_) (fun c_49 => ?_)
    · refine lv_iconst (v := nI 0) hx hb dX7_doubts_73 (by decide) ?_
      refine lv_istore (lv' := [(4, .int (nI (0))), (0, .ref a_mod), (1, .int (nI (t))), (2, .int (nI (dbF mim mce (sBase mlc mlg mpr) (t * 48) (j)))), (3, .int (nI (j)))]) hx hb dX7_doubts_74 hl (by decide) rfl (fun ls hl => ?_)
      refine lv_iload_n hx hb dX7_doubts_76 rfl (lv_at hl 3 rfl) ?_
      refine lv_iload hx hb dX7_doubts_77 (lv_at hl 0 rfl) ?_
      refine g_if_eq (tgt := 100) hx hb (by omega) dX7_doubts_79 (by decide) (fun c_79 => ?_) (fun c_79 => absurd c_79 (by omega))
      refine lv_iconst (v := nI 0) hx hb dX7_doubts_100 (by decide) ?_
      refine g_iadd hx hb dX7_doubts_101 (nI_add _ _) ?_
      refine lv_istore_n (lv' := [(2, .int (nI ((dbF mim mce (sBase mlc mlg mpr) (t * 48) (j)) + 0))), (4, .int (nI (0))), (0, .ref a_mod), (1, .int (nI (t))), (3, .int (nI (j)))]) hx hb dX7_doubts_102 rfl hl (by decide) rfl (fun ls hl => ?_)
      refine lv_iinc (v := nI (j + 1)) (lv' := [(3, .int (nI (j + 1))), (2, .int (nI ((dbF mim mce (sBase mlc mlg mpr) (t * 48) (j)) + 0))), (4, .int (nI (0))), (0, .ref a_mod), (1, .int (nI (t)))]) hx hb dX7_doubts_103 hl (k := 4) rfl (nI_add _ 1) (by decide) rfl (fun ls hl => ?_)
      refine lv_goto (tgt := 21) hx hb dX7_doubts_106 (by decide) ?_
      have hP : gvP D vwCl (ws.set p_mod (a_mod, .inr (8, .int (nI (0)) :: .int (nI (n)) :: x_mod_2 :: x_mod_3 :: x_mod_4 :: .int (nI (nw)) :: x_mod_6 :: x_mod_7 :: .ref a_mce :: x_mod_9 :: x_mod_10 :: x_mod_11 :: .ref a_mlc :: .ref a_mlg :: x_mod_14 :: x_mod_15 :: x_mod_16 :: .ref a_mpr :: .ref a_mim :: x_mod_19 :: x_mod_20 :: x_mod_21 :: x_mod_22 :: x_mod_23 :: x_mod_24 :: x_mod_25 :: x_mod_26 :: x_mod_27 :: x_mod_28 :: x_mod_29 :: x_mod_30 :: x_mod_31 :: x_mod_32 :: []))) _ := g_trP (rfl) hP
      have hD : gvD A (ws.set p_mod (a_mod, .inr (8, .int (nI (0)) :: .int (nI (n)) :: x_mod_2 :: x_mod_3 :: x_mod_4 :: .int (nI (nw)) :: x_mod_6 :: x_mod_7 :: .ref a_mce :: x_mod_9 :: x_mod_10 :: x_mod_11 :: .ref a_mlc :: .ref a_mlg :: x_mod_14 :: x_mod_15 :: x_mod_16 :: .ref a_mpr :: .ref a_mim :: x_mod_19 :: x_mod_20 :: x_mod_21 :: x_mod_22 :: x_mod_23 :: x_mod_24 :: x_mod_25 :: x_mod_26 :: x_mod_27 :: x_mod_28 :: x_mod_29 :: x_mod_30 :: x_mod_31 :: x_mod_32 :: []))) := g_trD (rfl) hD
      exact ih_j H locs ls hP hD hS (lv_sub hl [3, 4, 1, 0] (by rw [dbF, if_neg (fun z => by have := z.1; omega)]; rfl))
    · refine lv_aload_n hx hb dX7_doubts_52 rfl (lv_at hl 0 rfl) ?_
      refine lv_iload_n hx hb dX7_doubts_53 rfl (lv_at hl 1 rfl) ?_
      refine lv_iload_n hx hb dX7_doubts_54 rfl (lv_at hl 3 rfl) ?_
      refine lv_iconst (v := nI 4) hx hb dX7_doubts_55 (by decide) ?_
      refine g_idiv hx hb dX7_doubts_56 (by decide) (pk_div (by omega) (by decide) (by decide)) ?_
      refine lv_iload_n hx hb dX7_doubts_57 rfl (lv_at hl 3 rfl) ?_
      refine lv_iconst (v := nI 4) hx hb dX7_doubts_58 (by decide) ?_
      refine g_irem hx hb dX7_doubts_59 (by decide) (pk_rem (by omega) (by decide) (by decide)) ?_
      refine lv_iconst (v := nI 0) hx hb dX7_doubts_60 (by decide) ?_
      have f_mlc := g_ne (x := (a_mod, .inr (8, .int (nI (0)) :: .int (nI (n)) :: x_mod_2 :: x_mod_3 :: x_mod_4 :: .int (nI (nw)) :: x_mod_6 :: x_mod_7 :: .ref a_mce :: x_mod_9 :: x_mod_10 :: x_mod_11 :: .ref a_mlc :: .ref a_mlg :: x_mod_14 :: x_mod_15 :: x_mod_16 :: .ref a_mpr :: .ref a_mim :: x_mod_19 :: x_mod_20 :: x_mod_21 :: x_mod_22 :: x_mod_23 :: x_mod_24 :: x_mod_25 :: x_mod_26 :: x_mod_27 :: x_mod_28 :: x_mod_29 :: x_mod_30 :: x_mod_31 :: x_mod_32 :: []))) (g_kne f0_mod f0_mlc (Nat.ne_of_beq_eq_false rfl)) (f0_mlc)
      have f_mlg := g_ne (x := (a_mod, .inr (8, .int (nI (0)) :: .int (nI (n)) :: x_mod_2 :: x_mod_3 :: x_mod_4 :: .int (nI (nw)) :: x_mod_6 :: x_mod_7 :: .ref a_mce :: x_mod_9 :: x_mod_10 :: x_mod_11 :: .ref a_mlc :: .ref a_mlg :: x_mod_14 :: x_mod_15 :: x_mod_16 :: .ref a_mpr :: .ref a_mim :: x_mod_19 :: x_mod_20 :: x_mod_21 :: x_mod_22 :: x_mod_23 :: x_mod_24 :: x_mod_25 :: x_mod_26 :: x_mod_27 :: x_mod_28 :: x_mod_29 :: x_mod_30 :: x_mod_31 :: x_mod_32 :: []))) (g_kne f0_mod f0_mlg (Nat.ne_of_beq_eq_false rfl)) (f0_mlg)
      have f_mpr := g_ne (x := (a_mod, .inr (8, .int (nI (0)) :: .int (nI (n)) :: x_mod_2 :: x_mod_3 :: x_mod_4 :: .int (nI (nw)) :: x_mod_6 :: x_mod_7 :: .ref a_mce :: x_mod_9 :: x_mod_10 :: x_mod_11 :: .ref a_mlc :: .ref a_mlg :: x_mod_14 :: x_mod_15 :: x_mod_16 :: .ref a_mpr :: .ref a_mim :: x_mod_19 :: x_mod_20 :: x_mod_21 :: x_mod_22 :: x_mod_23 :: x_mod_24 :: x_mod_25 :: x_mod_26 :: x_mod_27 :: x_mod_28 :: x_mod_29 :: x_mod_30 :: x_mod_31 :: x_mod_32 :: []))) (g_kne f0_mod f0_mpr (Nat.ne_of_beq_eq_false rfl)) (f0_mpr)
      refine gc_V_d (As := [.int (nI (t)), .int (nI ((j) / (4))), .int (nI ((j) % (4))), .int (nI (0))]) (rest := []) (c_X7_base l f_mod f_mlc f_mlg f_mpr b_mlc b_mlg (by omega) (by omega) (by omega) (by decide) hlg) ⟨hx, hb, hml, hown, hts⟩ (cwV 4 hts gX7_doubts_X7_base rfl rfl rfl (by decide +kernel) ⟨Nat.le_of_ble_eq_true rfl, Nat.le_of_ble_eq_true rfl⟩) hE hP hD hS hA _ f_mod rfl rfl rfl rfl hl.1 (Nat.le_of_ble_eq_true rfl) dX7_doubts_61 ⟨Nat.le_of_ble_eq_true rfl, Nat.le_of_ble_eq_true rfl⟩ (fun r_61 u_61 H locs hP hD hS q_61 => ?_)
      have q9 := q_61.trans ((mBase_s0 (by omega) (by omega) hlg).trans (congrArg (sBase mlc mlg mpr) (by omega : 48 * t + 4 * (j / 4) + j % 4 = t * 48 + j)))
      subst q9
      refine g_dconst0 hx hb dX7_doubts_64 ?_
      refine g_dcmpl_le (tgt := 73) hx hb dX7_doubts_65 dX7_doubts_66 (by decide) (fun c_65 => ?_) (fun c_65 => ?_)
      · refine lv_iconst (v := nI 0) hx hb dX7_doubts_73 (by decide) ?_
        refine lv_istore (lv' := [(4, .int (nI (0))), (0, .ref a_mod), (1, .int (nI (t))), (2, .int (nI (dbF mim mce (sBase mlc mlg mpr) (t * 48) (j)))), (3, .int (nI (j)))]) hx hb dX7_doubts_74 hl (by decide) rfl (fun ls hl => ?_)
        refine lv_iload_n hx hb dX7_doubts_76 rfl (lv_at hl 3 rfl) ?_
        refine lv_iload hx hb dX7_doubts_77 (lv_at hl 0 rfl) ?_
        refine g_if_eq (tgt := 100) hx hb (by omega) dX7_doubts_79 (by decide) (fun c_79 => ?_) (fun c_79 => absurd c_79 (by omega))
        refine lv_iconst (v := nI 0) hx hb dX7_doubts_100 (by decide) ?_
        refine g_iadd hx hb dX7_doubts_101 (nI_add _ _) ?_
        refine lv_istore_n (lv' := [(2, .int (nI ((dbF mim mce (sBase mlc mlg mpr) (t * 48) (j)) + 0))), (4, .int (nI (0))), (0, .ref a_mod), (1, .int (nI (t))), (3, .int (nI (j)))]) hx hb dX7_doubts_102 rfl hl (by decide) rfl (fun ls hl => ?_)
        refine lv_iinc (v := nI (j + 1)) (lv' := [(3, .int (nI (j + 1))), (2, .int (nI ((dbF mim mce (sBase mlc mlg mpr) (t * 48) (j)) + 0))), (4, .int (nI (0))), (0, .ref a_mod), (1, .int (nI (t)))]) hx hb dX7_doubts_103 hl (k := 4) rfl (nI_add _ 1) (by decide) rfl (fun ls hl => ?_)
        refine lv_goto (tgt := 21) hx hb dX7_doubts_106 (by decide) ?_
        have hP : gvP D vwCl (ws.set p_mod (a_mod, .inr (8, .int (nI (0)) :: .int (nI (n)) :: x_mod_2 :: x_mod_3 :: x_mod_4 :: .int (nI (nw)) :: x_mod_6 :: x_mod_7 :: .ref a_mce :: x_mod_9 :: x_mod_10 :: x_mod_11 :: .ref a_mlc :: .ref a_mlg :: x_mod_14 :: x_mod_15 :: x_mod_16 :: .ref a_mpr :: .ref a_mim :: x_mod_19 :: x_mod_20 :: x_mod_21 :: x_mod_22 :: x_mod_23 :: x_mod_24 :: x_mod_25 :: x_mod_26 :: x_mod_27 :: x_mod_28 :: x_mod_29 :: x_mod_30 :: x_mod_31 :: x_mod_32 :: []))) _ := g_trP (rfl) hP
        have hD : gvD A (ws.set p_mod (a_mod, .inr (8, .int (nI (0)) :: .int (nI (n)) :: x_mod_2 :: x_mod_3 :: x_mod_4 :: .int (nI (nw)) :: x_mod_6 :: x_mod_7 :: .ref a_mce :: x_mod_9 :: x_mod_10 :: x_mod_11 :: .ref a_mlc :: .ref a_mlg :: x_mod_14 :: x_mod_15 :: x_mod_16 :: .ref a_mpr :: .ref a_mim :: x_mod_19 :: x_mod_20 :: x_mod_21 :: x_mod_22 :: x_mod_23 :: x_mod_24 :: x_mod_25 :: x_mod_26 :: x_mod_27 :: x_mod_28 :: x_mod_29 :: x_mod_30 :: x_mod_31 :: x_mod_32 :: []))) := g_trD (rfl) hD
        exact ih_j H locs ls hP hD hS (lv_sub hl [3, 4, 1, 0] (by rw [dbF, if_neg (fun z => c_65 z.2.1)]; rfl))
      · refine lv_iconst (v := nI 1) hx hb dX7_doubts_69 (by decide) ?_
        refine lv_goto (tgt := 74) hx hb dX7_doubts_70 (by decide) ?_
        refine lv_istore (lv' := [(4, .int (nI (1))), (0, .ref a_mod), (1, .int (nI (t))), (2, .int (nI (dbF mim mce (sBase mlc mlg mpr) (t * 48) (j)))), (3, .int (nI (j)))]) hx hb dX7_doubts_74 hl (by decide) rfl (fun ls hl => ?_)
        refine lv_iload_n hx hb dX7_doubts_76 rfl (lv_at hl 3 rfl) ?_
        refine lv_iload hx hb dX7_doubts_77 (lv_at hl 0 rfl) ?_
        refine g_if_eq (tgt := 100) hx hb (by omega) dX7_doubts_79 (by decide) (fun c_79 => absurd c_79 (by omega)) (fun c_79 => ?_)
        refine lv_aload_n hx hb dX7_doubts_82 rfl (lv_at hl 1 rfl) ?_
        refine va_get (D := D) (ci := 8) (v := .ref a_mim) (C := RX7) (T := TX7) (N := 33) hx hb hts in_RX7 hown hE.1 (gv1 hP f_mod) 0 rfl rfl 18 (by decide) (hts (.fieldLink RX7 51 "BasketryOfficeModel" "isMatched" "[Z") (by decide +kernel)) (fun _ h9 => h9) rfl dX7_doubts_83 ?_
        refine lv_bipush (v := nI 48) hx hb dX7_doubts_86 (by decide) ?_
        refine lv_iload_n hx hb dX7_doubts_88 rfl (lv_at hl 2 rfl) ?_
        refine g_imul hx hb dX7_doubts_89 (pk_mul _ _) ?_
        refine lv_iload_n hx hb dX7_doubts_90 rfl (lv_at hl 4 rfl) ?_
        refine g_iadd hx hb dX7_doubts_91 (nI_add _ _) ?_
        have f_mim := g_ne (x := (a_mod, .inr (8, .int (nI (0)) :: .int (nI (n)) :: x_mod_2 :: x_mod_3 :: x_mod_4 :: .int (nI (nw)) :: x_mod_6 :: x_mod_7 :: .ref a_mce :: x_mod_9 :: x_mod_10 :: x_mod_11 :: .ref a_mlc :: .ref a_mlg :: x_mod_14 :: x_mod_15 :: x_mod_16 :: .ref a_mpr :: .ref a_mim :: x_mod_19 :: x_mod_20 :: x_mod_21 :: x_mod_22 :: x_mod_23 :: x_mod_24 :: x_mod_25 :: x_mod_26 :: x_mod_27 :: x_mod_28 :: x_mod_29 :: x_mod_30 :: x_mod_31 :: x_mod_32 :: []))) (g_kne f0_mod f0_mim (Nat.ne_of_beq_eq_false rfl)) (f0_mim)
        refine g_zald hx hb hE hP _ f_mim (by omega) (by decide) dX7_doubts_92 ?_
        refine g_iv (v' := gb (mim (t * 48 + j))) (congrArg (fun z => gb (mim z)) (by omega)) ?_
        refine g_bif_ne (tgt := 100) hx hb dX7_doubts_93 (by decide) (fun c_93 => ?_) (fun c_93 => ?_)
        · refine lv_iconst (v := nI 0) hx hb dX7_doubts_100 (by decide) ?_
          refine g_iadd hx hb dX7_doubts_101 (nI_add _ _) ?_
          refine lv_istore_n (lv' := [(2, .int (nI ((dbF mim mce (sBase mlc mlg mpr) (t * 48) (j)) + 0))), (4, .int (nI (1))), (0, .ref a_mod), (1, .int (nI (t))), (3, .int (nI (j)))]) hx hb dX7_doubts_102 rfl hl (by decide) rfl (fun ls hl => ?_)
          refine lv_iinc (v := nI (j + 1)) (lv' := [(3, .int (nI (j + 1))), (2, .int (nI ((dbF mim mce (sBase mlc mlg mpr) (t * 48) (j)) + 0))), (4, .int (nI (1))), (0, .ref a_mod), (1, .int (nI (t)))]) hx hb dX7_doubts_103 hl (k := 4) rfl (nI_add _ 1) (by decide) rfl (fun ls hl => ?_)
          refine lv_goto (tgt := 21) hx hb dX7_doubts_106 (by decide) ?_
          have hP : gvP D vwCl (ws.set p_mod (a_mod, .inr (8, .int (nI (0)) :: .int (nI (n)) :: x_mod_2 :: x_mod_3 :: x_mod_4 :: .int (nI (nw)) :: x_mod_6 :: x_mod_7 :: .ref a_mce :: x_mod_9 :: x_mod_10 :: x_mod_11 :: .ref a_mlc :: .ref a_mlg :: x_mod_14 :: x_mod_15 :: x_mod_16 :: .ref a_mpr :: .ref a_mim :: x_mod_19 :: x_mod_20 :: x_mod_21 :: x_mod_22 :: x_mod_23 :: x_mod_24 :: x_mod_25 :: x_mod_26 :: x_mod_27 :: x_mod_28 :: x_mod_29 :: x_mod_30 :: x_mod_31 :: x_mod_32 :: []))) _ := g_trP (rfl) hP
          have hD : gvD A (ws.set p_mod (a_mod, .inr (8, .int (nI (0)) :: .int (nI (n)) :: x_mod_2 :: x_mod_3 :: x_mod_4 :: .int (nI (nw)) :: x_mod_6 :: x_mod_7 :: .ref a_mce :: x_mod_9 :: x_mod_10 :: x_mod_11 :: .ref a_mlc :: .ref a_mlg :: x_mod_14 :: x_mod_15 :: x_mod_16 :: .ref a_mpr :: .ref a_mim :: x_mod_19 :: x_mod_20 :: x_mod_21 :: x_mod_22 :: x_mod_23 :: x_mod_24 :: x_mod_25 :: x_mod_26 :: x_mod_27 :: x_mod_28 :: x_mod_29 :: x_mod_30 :: x_mod_31 :: x_mod_32 :: []))) := g_trD (rfl) hD
          exact ih_j H locs ls hP hD hS (lv_sub hl [3, 4, 1, 0] (by rw [dbF, if_neg (fun z => by have h9 := z.2.2; rw [c_93] at h9; cases h9)]; rfl))
        · refine lv_iconst (v := nI 1) hx hb dX7_doubts_96 (by decide) ?_
          refine lv_goto (tgt := 101) hx hb dX7_doubts_97 (by decide) ?_
          refine g_iadd hx hb dX7_doubts_101 (nI_add _ _) ?_
          refine lv_istore_n (lv' := [(2, .int (nI ((dbF mim mce (sBase mlc mlg mpr) (t * 48) (j)) + 1))), (4, .int (nI (1))), (0, .ref a_mod), (1, .int (nI (t))), (3, .int (nI (j)))]) hx hb dX7_doubts_102 rfl hl (by decide) rfl (fun ls hl => ?_)
          refine lv_iinc (v := nI (j + 1)) (lv' := [(3, .int (nI (j + 1))), (2, .int (nI ((dbF mim mce (sBase mlc mlg mpr) (t * 48) (j)) + 1))), (4, .int (nI (1))), (0, .ref a_mod), (1, .int (nI (t)))]) hx hb dX7_doubts_103 hl (k := 4) rfl (nI_add _ 1) (by decide) rfl (fun ls hl => ?_)
          refine lv_goto (tgt := 21) hx hb dX7_doubts_106 (by decide) ?_
          have hP : gvP D vwCl (ws.set p_mod (a_mod, .inr (8, .int (nI (0)) :: .int (nI (n)) :: x_mod_2 :: x_mod_3 :: x_mod_4 :: .int (nI (nw)) :: x_mod_6 :: x_mod_7 :: .ref a_mce :: x_mod_9 :: x_mod_10 :: x_mod_11 :: .ref a_mlc :: .ref a_mlg :: x_mod_14 :: x_mod_15 :: x_mod_16 :: .ref a_mpr :: .ref a_mim :: x_mod_19 :: x_mod_20 :: x_mod_21 :: x_mod_22 :: x_mod_23 :: x_mod_24 :: x_mod_25 :: x_mod_26 :: x_mod_27 :: x_mod_28 :: x_mod_29 :: x_mod_30 :: x_mod_31 :: x_mod_32 :: []))) _ := g_trP (rfl) hP
          have hD : gvD A (ws.set p_mod (a_mod, .inr (8, .int (nI (0)) :: .int (nI (n)) :: x_mod_2 :: x_mod_3 :: x_mod_4 :: .int (nI (nw)) :: x_mod_6 :: x_mod_7 :: .ref a_mce :: x_mod_9 :: x_mod_10 :: x_mod_11 :: .ref a_mlc :: .ref a_mlg :: x_mod_14 :: x_mod_15 :: x_mod_16 :: .ref a_mpr :: .ref a_mim :: x_mod_19 :: x_mod_20 :: x_mod_21 :: x_mod_22 :: x_mod_23 :: x_mod_24 :: x_mod_25 :: x_mod_26 :: x_mod_27 :: x_mod_28 :: x_mod_29 :: x_mod_30 :: x_mod_31 :: x_mod_32 :: []))) := g_trD (rfl) hD
          exact ih_j H locs ls hP hD hS (lv_sub hl [3, 4, 1, 0] (by rw [dbF, if_pos ⟨c_49, c_65, c_93⟩]; rfl))

theorem in_x0_X7_ofContract_RX7 : ∀ w ∈ wsX70, w ∈ wsX7_ofContract := by decide +kernel
set_option maxHeartbeats 4000000 in
set_option maxRecDepth 100000 in
theorem x0_X7_ofContract (l : Launch) {D : va_G} {y : Nat → Nat} {ws : va_W} {x_mod_1 : Value} {x_mod_2 : Value} {x_mod_3 : Value} {x_mod_4 : Value} {x_mod_5 : Value} {x_mod_6 : Value} {x_mod_7 : Value} {x_mod_8 : Value} {x_mod_9 : Value} {x_mod_10 : Value} {x_mod_11 : Value} {x_mod_12 : Value} {x_mod_13 : Value} {x_mod_14 : Value} {x_mod_15 : Value} {x_mod_16 : Value} {x_mod_17 : Value} {x_mod_18 : Value} {x_mod_19 : Value} {x_mod_20 : Value} {x_mod_21 : Value} {x_mod_22 : Value} {x_mod_24 : Value} {x_mod_25 : Value} {x_mod_26 : Value} {x_mod_27 : Value} {x_mod_28 : Value} {x_mod_29 : Value} {x_mod_30 : Value} {x_mod_31 : Value} {x_mod_32 : Value} {p_mod a_mod : Nat} {c9 x : Int32} {nc th : Nat} (f0_mod : ws[p_mod]? = some (a_mod, .inr (8, .int (nI (th)) :: x_mod_1 :: x_mod_2 :: x_mod_3 :: x_mod_4 :: x_mod_5 :: x_mod_6 :: x_mod_7 :: x_mod_8 :: x_mod_9 :: x_mod_10 :: x_mod_11 :: x_mod_12 :: x_mod_13 :: x_mod_14 :: x_mod_15 :: x_mod_16 :: x_mod_17 :: x_mod_18 :: x_mod_19 :: x_mod_20 :: x_mod_21 :: x_mod_22 :: .int (nI (nc)) :: x_mod_24 :: x_mod_25 :: x_mod_26 :: x_mod_27 :: x_mod_28 :: x_mod_29 :: x_mod_30 :: x_mod_31 :: x_mod_32 :: []))) (hc : nc ≤ 10) (hbad : c9 < 0 ∨ nI nc ≤ c9) : gMl l yX7_ofContract wsX7_ofContract ({ frames := 1, cells := 0, slots := 0, locals := 22 }) D y [.ref a_mod, .int (c9), .int (x)] ws (fun r (_ : Unit) => r = lN 0) (fun (_ : Unit) => (ws.set p_mod (a_mod, .inr (8, .int (nI (1)) :: x_mod_1 :: x_mod_2 :: x_mod_3 :: x_mod_4 :: x_mod_5 :: x_mod_6 :: x_mod_7 :: x_mod_8 :: x_mod_9 :: x_mod_10 :: x_mod_11 :: x_mod_12 :: x_mod_13 :: x_mod_14 :: x_mod_15 :: x_mod_16 :: x_mod_17 :: x_mod_18 :: x_mod_19 :: x_mod_20 :: x_mod_21 :: x_mod_22 :: .int (nI (nc)) :: x_mod_24 :: x_mod_25 :: x_mod_26 :: x_mod_27 :: x_mod_28 :: x_mod_29 :: x_mod_30 :: x_mod_31 :: x_mod_32 :: [])))) := by
  refine g_met_l (cc := cX7_ofContract) (maxL := 3) (by decide) rfl (Nat.le_of_ble_eq_true rfl) ?_
  intro p e s m below meth c A hx hb hml hr hts hown hnm hlocks hE hP hD hS hA ls hl
  have hown : s.vm.findClass RX7 = some m.cls := hown
  have hl : lv_has ls 3 [(0, .ref a_mod), (1, .int (c9)), (2, .int (x))] := hl
  have in_RX7 := in_x0_X7_ofContract_RX7
  refine lv_aload_n hx hb dX7_ofContract_0 rfl (lv_at hl 0 rfl) ?_
  refine lv_iload_n hx hb dX7_ofContract_1 rfl (lv_at hl 1 rfl) ?_
  refine lv_iconst (v := nI 0) hx hb dX7_ofContract_2 (by decide) ?_
  refine lv_aload_n hx hb dX7_ofContract_3 rfl (lv_at hl 0 rfl) ?_
  refine va_get (D := D) (ci := 8) (v := .int (nI (nc))) (C := RX7) (T := TX7) (N := 33) hx hb hts in_RX7 hown hE.1 (gv1 hP f0_mod) 0 rfl rfl 23 (by decide) (hts (.fieldLink RX7 174 "BasketryOfficeModel" "contracts" "I") (by decide +kernel)) (fun _ h9 => h9) rfl dX7_ofContract_4 ?_
  refine lv_iconst (v := nI 1) hx hb dX7_ofContract_7 (by decide) ?_
  refine g_isub hx hb dX7_ofContract_8 rfl ?_
  refine gc_S_i (As := [.int (c9), .int (nI (0)), .int (nI nc - nI 1)]) (rest := [.ref a_mod]) (c_X7_in l) ⟨hx, hb, hml, hown, hts⟩ (va_cwS 3 hts gX7_ofContract_X7_in rfl rfl rfl (by decide +kernel) ⟨Nat.le_of_ble_eq_true rfl, Nat.le_of_ble_eq_true rfl⟩) hE hP hD hS hA rfl rfl hl.1 (Nat.le_of_ble_eq_true rfl) dX7_ofContract_9 ⟨Nat.le_of_ble_eq_true rfl, Nat.le_of_ble_eq_true rfl⟩ (fun r_9 u_9 H locs hP hD hS q_9 => ?_)
  subst q_9
  refine g_bif_eq (tgt := 28) hx hb dX7_ofContract_12 (by decide) (fun c_12 => ?_) (fun c_12 => absurd c_12 (by rw [in_sub (by omega), decide_eq_false (fun z => z hbad)]; decide))
  refine lv_iconst (v := nI 1) hx hb dX7_ofContract_28 (by decide) ?_
  refine gv_set f0_mod rfl (by rfl) (fun k9 h9 kk9 => va_put (D := D) (ci := 8) (v := .int (nI (1))) (ty := .int) (C := RX7) (T := TX7) (N := 33) hx hb hts in_RX7 tyX7 tyX7_ok nmX7 hown hE.1 hP hD hS k9 h9 rfl 0 (by decide) (hts (.fieldLink RX7 94 "BasketryOfficeModel" "thrown" "I") (by decide +kernel)) (fun _ h9 => h9) rfl (by decide +kernel) rfl rfl (Nat.le_of_ble_eq_true rfl) dX7_ofContract_29 kk9) (fun H locs hP hD hS => ?_)
  refine lv_aload_n hx hb dX7_ofContract_32 rfl (lv_at hl 0 rfl) ?_
  have f_mod := g_eq (x := (a_mod, .inr (8, .int (nI (1)) :: x_mod_1 :: x_mod_2 :: x_mod_3 :: x_mod_4 :: x_mod_5 :: x_mod_6 :: x_mod_7 :: x_mod_8 :: x_mod_9 :: x_mod_10 :: x_mod_11 :: x_mod_12 :: x_mod_13 :: x_mod_14 :: x_mod_15 :: x_mod_16 :: x_mod_17 :: x_mod_18 :: x_mod_19 :: x_mod_20 :: x_mod_21 :: x_mod_22 :: .int (nI (nc)) :: x_mod_24 :: x_mod_25 :: x_mod_26 :: x_mod_27 :: x_mod_28 :: x_mod_29 :: x_mod_30 :: x_mod_31 :: x_mod_32 :: []))) (f0_mod)
  refine va_get (D := D) (ci := 8) (v := .int (nI (1))) (C := RX7) (T := TX7) (N := 33) hx hb hts in_RX7 hown hE.1 (gv1 hP f_mod) 0 rfl rfl 0 (by decide) (hts (.fieldLink RX7 94 "BasketryOfficeModel" "thrown" "I") (by decide +kernel)) (fun _ h9 => h9) rfl dX7_ofContract_33 ?_
  refine g_if_le (tgt := 41) hx hb (by omega) dX7_ofContract_36 (by decide) (fun c_36 => absurd c_36 (by omega)) (fun c_36 => ?_)
  refine lv_lconst (v := lN 0) hx hb dX7_ofContract_39 (by decide) ?_
  refine g_lret hx hb hr hlocks () dX7_ofContract_40 hS hP hD ?_
  exact rfl

theorem in_x1_X7_ofContract_RX7 : ∀ w ∈ wsX70, w ∈ wsX7_ofContract := by decide +kernel
set_option maxHeartbeats 4000000 in
set_option maxRecDepth 100000 in
theorem x1_X7_ofContract (l : Launch) {D : va_G} {y : Nat → Nat} {ws : va_W} {x_mod_1 : Value} {x_mod_2 : Value} {x_mod_3 : Value} {x_mod_4 : Value} {x_mod_5 : Value} {x_mod_6 : Value} {x_mod_7 : Value} {x_mod_8 : Value} {x_mod_9 : Value} {x_mod_10 : Value} {x_mod_11 : Value} {x_mod_12 : Value} {x_mod_13 : Value} {x_mod_14 : Value} {x_mod_15 : Value} {x_mod_16 : Value} {x_mod_17 : Value} {x_mod_18 : Value} {x_mod_19 : Value} {x_mod_20 : Value} {x_mod_21 : Value} {x_mod_22 : Value} {x_mod_24 : Value} {x_mod_25 : Value} {x_mod_26 : Value} {x_mod_27 : Value} {x_mod_28 : Value} {x_mod_29 : Value} {x_mod_30 : Value} {x_mod_31 : Value} {x_mod_32 : Value} {p_mod a_mod : Nat} {c9 : Nat} {x : Int32} {nc th : Nat} (f0_mod : ws[p_mod]? = some (a_mod, .inr (8, .int (nI (th)) :: x_mod_1 :: x_mod_2 :: x_mod_3 :: x_mod_4 :: x_mod_5 :: x_mod_6 :: x_mod_7 :: x_mod_8 :: x_mod_9 :: x_mod_10 :: x_mod_11 :: x_mod_12 :: x_mod_13 :: x_mod_14 :: x_mod_15 :: x_mod_16 :: x_mod_17 :: x_mod_18 :: x_mod_19 :: x_mod_20 :: x_mod_21 :: x_mod_22 :: .int (nI (nc)) :: x_mod_24 :: x_mod_25 :: x_mod_26 :: x_mod_27 :: x_mod_28 :: x_mod_29 :: x_mod_30 :: x_mod_31 :: x_mod_32 :: []))) (hc : nc ≤ 10) (hc9 : c9 < nc) (hbad : x < nI 0 ∨ nI 3 < x) : gMl l yX7_ofContract wsX7_ofContract ({ frames := 1, cells := 0, slots := 0, locals := 22 }) D y [.ref a_mod, .int (nI (c9)), .int (x)] ws (fun r (_ : Unit) => r = lN 0) (fun (_ : Unit) => (ws.set p_mod (a_mod, .inr (8, .int (nI (1)) :: x_mod_1 :: x_mod_2 :: x_mod_3 :: x_mod_4 :: x_mod_5 :: x_mod_6 :: x_mod_7 :: x_mod_8 :: x_mod_9 :: x_mod_10 :: x_mod_11 :: x_mod_12 :: x_mod_13 :: x_mod_14 :: x_mod_15 :: x_mod_16 :: x_mod_17 :: x_mod_18 :: x_mod_19 :: x_mod_20 :: x_mod_21 :: x_mod_22 :: .int (nI (nc)) :: x_mod_24 :: x_mod_25 :: x_mod_26 :: x_mod_27 :: x_mod_28 :: x_mod_29 :: x_mod_30 :: x_mod_31 :: x_mod_32 :: [])))) := by
  refine g_met_l (cc := cX7_ofContract) (maxL := 3) (by decide) rfl (Nat.le_of_ble_eq_true rfl) ?_
  intro p e s m below meth c A hx hb hml hr hts hown hnm hlocks hE hP hD hS hA ls hl
  have hown : s.vm.findClass RX7 = some m.cls := hown
  have hl : lv_has ls 3 [(0, .ref a_mod), (1, .int (nI (c9))), (2, .int (x))] := hl
  have in_RX7 := in_x1_X7_ofContract_RX7
  refine lv_aload_n hx hb dX7_ofContract_0 rfl (lv_at hl 0 rfl) ?_
  refine lv_iload_n hx hb dX7_ofContract_1 rfl (lv_at hl 1 rfl) ?_
  refine lv_iconst (v := nI 0) hx hb dX7_ofContract_2 (by decide) ?_
  refine lv_aload_n hx hb dX7_ofContract_3 rfl (lv_at hl 0 rfl) ?_
  refine va_get (D := D) (ci := 8) (v := .int (nI (nc))) (C := RX7) (T := TX7) (N := 33) hx hb hts in_RX7 hown hE.1 (gv1 hP f0_mod) 0 rfl rfl 23 (by decide) (hts (.fieldLink RX7 174 "BasketryOfficeModel" "contracts" "I") (by decide +kernel)) (fun _ h9 => h9) rfl dX7_ofContract_4 ?_
  refine lv_iconst (v := nI 1) hx hb dX7_ofContract_7 (by decide) ?_
  refine g_isub hx hb dX7_ofContract_8 rfl ?_
  refine gc_S_i (As := [.int (nI (c9)), .int (nI (0)), .int (nI nc - nI 1)]) (rest := [.ref a_mod]) (c_X7_in l) ⟨hx, hb, hml, hown, hts⟩ (va_cwS 3 hts gX7_ofContract_X7_in rfl rfl rfl (by decide +kernel) ⟨Nat.le_of_ble_eq_true rfl, Nat.le_of_ble_eq_true rfl⟩) hE hP hD hS hA rfl rfl hl.1 (Nat.le_of_ble_eq_true rfl) dX7_ofContract_9 ⟨Nat.le_of_ble_eq_true rfl, Nat.le_of_ble_eq_true rfl⟩ (fun r_9 u_9 H locs hP hD hS q_9 => ?_)
  subst q_9
  refine g_bif_eq (tgt := 28) hx hb dX7_ofContract_12 (by decide) (fun c_12 => absurd c_12 (by rw [in_sub (by omega), decide_eq_true (rq_lt hc9 (by omega))]; decide)) (fun c_12 => ?_)
  refine lv_iload_n hx hb dX7_ofContract_15 rfl (lv_at hl 2 rfl) ?_
  refine lv_iconst (v := nI 0) hx hb dX7_ofContract_16 (by decide) ?_
  refine lv_iconst (v := nI 3) hx hb dX7_ofContract_17 (by decide) ?_
  refine gc_S_i (As := [.int (x), .int (nI (0)), .int (nI (3))]) (rest := [.ref a_mod]) (c_X7_in l) ⟨hx, hb, hml, hown, hts⟩ (va_cwS 3 hts gX7_ofContract_X7_in rfl rfl rfl (by decide +kernel) ⟨Nat.le_of_ble_eq_true rfl, Nat.le_of_ble_eq_true rfl⟩) hE hP hD hS hA rfl rfl hl.1 (Nat.le_of_ble_eq_true rfl) dX7_ofContract_18 ⟨Nat.le_of_ble_eq_true rfl, Nat.le_of_ble_eq_true rfl⟩ (fun r_18 u_18 H locs hP hD hS q_18 => ?_)
  subst q_18
  refine g_bif_eq (tgt := 28) hx hb dX7_ofContract_21 (by decide) (fun c_21 => ?_) (fun c_21 => absurd c_21 (by rw [decide_eq_false (fun z => z hbad)]; decide))
  refine lv_iconst (v := nI 1) hx hb dX7_ofContract_28 (by decide) ?_
  refine gv_set f0_mod rfl (by rfl) (fun k9 h9 kk9 => va_put (D := D) (ci := 8) (v := .int (nI (1))) (ty := .int) (C := RX7) (T := TX7) (N := 33) hx hb hts in_RX7 tyX7 tyX7_ok nmX7 hown hE.1 hP hD hS k9 h9 rfl 0 (by decide) (hts (.fieldLink RX7 94 "BasketryOfficeModel" "thrown" "I") (by decide +kernel)) (fun _ h9 => h9) rfl (by decide +kernel) rfl rfl (Nat.le_of_ble_eq_true rfl) dX7_ofContract_29 kk9) (fun H locs hP hD hS => ?_)
  refine lv_aload_n hx hb dX7_ofContract_32 rfl (lv_at hl 0 rfl) ?_
  have f_mod := g_eq (x := (a_mod, .inr (8, .int (nI (1)) :: x_mod_1 :: x_mod_2 :: x_mod_3 :: x_mod_4 :: x_mod_5 :: x_mod_6 :: x_mod_7 :: x_mod_8 :: x_mod_9 :: x_mod_10 :: x_mod_11 :: x_mod_12 :: x_mod_13 :: x_mod_14 :: x_mod_15 :: x_mod_16 :: x_mod_17 :: x_mod_18 :: x_mod_19 :: x_mod_20 :: x_mod_21 :: x_mod_22 :: .int (nI (nc)) :: x_mod_24 :: x_mod_25 :: x_mod_26 :: x_mod_27 :: x_mod_28 :: x_mod_29 :: x_mod_30 :: x_mod_31 :: x_mod_32 :: []))) (f0_mod)
  refine va_get (D := D) (ci := 8) (v := .int (nI (1))) (C := RX7) (T := TX7) (N := 33) hx hb hts in_RX7 hown hE.1 (gv1 hP f_mod) 0 rfl rfl 0 (by decide) (hts (.fieldLink RX7 94 "BasketryOfficeModel" "thrown" "I") (by decide +kernel)) (fun _ h9 => h9) rfl dX7_ofContract_33 ?_
  refine g_if_le (tgt := 41) hx hb (by omega) dX7_ofContract_36 (by decide) (fun c_36 => absurd c_36 (by omega)) (fun c_36 => ?_)
  refine lv_lconst (v := lN 0) hx hb dX7_ofContract_39 (by decide) ?_
  refine g_lret hx hb hr hlocks () dX7_ofContract_40 hS hP hD ?_
  exact rfl

theorem in_c0_X7_ofContract_RX7 : ∀ w ∈ wsX70, w ∈ wsX7_ofContract := by decide +kernel
set_option maxHeartbeats 4000000 in
set_option maxRecDepth 100000 in
theorem c0_X7_ofContract (l : Launch) {D : va_G} {y : Nat → Nat} {ws : va_W} {x_mod_1 : Value} {x_mod_2 : Value} {x_mod_3 : Value} {x_mod_4 : Value} {x_mod_5 : Value} {x_mod_6 : Value} {x_mod_7 : Value} {x_mod_8 : Value} {x_mod_9 : Value} {x_mod_10 : Value} {x_mod_11 : Value} {x_mod_12 : Value} {x_mod_13 : Value} {x_mod_14 : Value} {x_mod_15 : Value} {x_mod_16 : Value} {x_mod_17 : Value} {x_mod_18 : Value} {x_mod_19 : Value} {x_mod_20 : Value} {x_mod_21 : Value} {x_mod_22 : Value} {x_mod_24 : Value} {x_mod_25 : Value} {x_mod_26 : Value} {x_mod_27 : Value} {x_mod_28 : Value} {x_mod_30 : Value} {x_mod_31 : Value} {x_mod_32 : Value} {p_mod p_mwa a_mod a_mwa : Nat} {mwa : Nat → Nat} {c9 nc th : Nat} (f0_mod : ws[p_mod]? = some (a_mod, .inr (8, .int (nI (th)) :: x_mod_1 :: x_mod_2 :: x_mod_3 :: x_mod_4 :: x_mod_5 :: x_mod_6 :: x_mod_7 :: x_mod_8 :: x_mod_9 :: x_mod_10 :: x_mod_11 :: x_mod_12 :: x_mod_13 :: x_mod_14 :: x_mod_15 :: x_mod_16 :: x_mod_17 :: x_mod_18 :: x_mod_19 :: x_mod_20 :: x_mod_21 :: x_mod_22 :: .int (nI (nc)) :: x_mod_24 :: x_mod_25 :: x_mod_26 :: x_mod_27 :: x_mod_28 :: .ref a_mwa :: x_mod_30 :: x_mod_31 :: x_mod_32 :: []))) (f0_mwa : ws[p_mwa]? = some (a_mwa, eL y 10 mwa)) (b_mwa : ∀ k, mwa k ≤ 1000000000) (hc : nc ≤ 10) (hc9 : c9 < nc) : gMl l yX7_ofContract wsX7_ofContract ({ frames := 1, cells := 0, slots := 0, locals := 22 }) D y [.ref a_mod, .int (nI (c9)), .int (nI (0))] ws (fun r (_ : Unit) => r = lN (mwa c9)) (fun (_ : Unit) => (ws.set p_mod (a_mod, .inr (8, .int (nI (0)) :: x_mod_1 :: x_mod_2 :: x_mod_3 :: x_mod_4 :: x_mod_5 :: x_mod_6 :: x_mod_7 :: x_mod_8 :: x_mod_9 :: x_mod_10 :: x_mod_11 :: x_mod_12 :: x_mod_13 :: x_mod_14 :: x_mod_15 :: x_mod_16 :: x_mod_17 :: x_mod_18 :: x_mod_19 :: x_mod_20 :: x_mod_21 :: x_mod_22 :: .int (nI (nc)) :: x_mod_24 :: x_mod_25 :: x_mod_26 :: x_mod_27 :: x_mod_28 :: .ref a_mwa :: x_mod_30 :: x_mod_31 :: x_mod_32 :: [])))) := by
  refine g_met_l (cc := cX7_ofContract) (maxL := 3) (by decide) rfl (Nat.le_of_ble_eq_true rfl) ?_
  intro p e s m below meth c A hx hb hml hr hts hown hnm hlocks hE hP hD hS hA ls hl
  have hown : s.vm.findClass RX7 = some m.cls := hown
  have hl : lv_has ls 3 [(0, .ref a_mod), (1, .int (nI (c9))), (2, .int (nI (0)))] := hl
  have in_RX7 := in_c0_X7_ofContract_RX7
  refine lv_aload_n hx hb dX7_ofContract_0 rfl (lv_at hl 0 rfl) ?_
  refine lv_iload_n hx hb dX7_ofContract_1 rfl (lv_at hl 1 rfl) ?_
  refine lv_iconst (v := nI 0) hx hb dX7_ofContract_2 (by decide) ?_
  refine lv_aload_n hx hb dX7_ofContract_3 rfl (lv_at hl 0 rfl) ?_
  refine va_get (D := D) (ci := 8) (v := .int (nI (nc))) (C := RX7) (T := TX7) (N := 33) hx hb hts in_RX7 hown hE.1 (gv1 hP f0_mod) 0 rfl rfl 23 (by decide) (hts (.fieldLink RX7 174 "BasketryOfficeModel" "contracts" "I") (by decide +kernel)) (fun _ h9 => h9) rfl dX7_ofContract_4 ?_
  refine lv_iconst (v := nI 1) hx hb dX7_ofContract_7 (by decide) ?_
  refine g_isub hx hb dX7_ofContract_8 rfl ?_
  refine gc_S_i (As := [.int (nI (c9)), .int (nI (0)), .int (nI nc - nI 1)]) (rest := [.ref a_mod]) (c_X7_in l) ⟨hx, hb, hml, hown, hts⟩ (va_cwS 3 hts gX7_ofContract_X7_in rfl rfl rfl (by decide +kernel) ⟨Nat.le_of_ble_eq_true rfl, Nat.le_of_ble_eq_true rfl⟩) hE hP hD hS hA rfl rfl hl.1 (Nat.le_of_ble_eq_true rfl) dX7_ofContract_9 ⟨Nat.le_of_ble_eq_true rfl, Nat.le_of_ble_eq_true rfl⟩ (fun r_9 u_9 H locs hP hD hS q_9 => ?_)
  subst q_9
  refine g_bif_eq (tgt := 28) hx hb dX7_ofContract_12 (by decide) (fun c_12 => absurd c_12 (by rw [in_sub (by omega), decide_eq_true (rq_lt hc9 (by omega))]; decide)) (fun c_12 => ?_)
  refine lv_iload_n hx hb dX7_ofContract_15 rfl (lv_at hl 2 rfl) ?_
  refine lv_iconst (v := nI 0) hx hb dX7_ofContract_16 (by decide) ?_
  refine lv_iconst (v := nI 3) hx hb dX7_ofContract_17 (by decide) ?_
  refine gc_S_i (As := [.int (nI (0)), .int (nI (0)), .int (nI (3))]) (rest := [.ref a_mod]) (c_X7_in l) ⟨hx, hb, hml, hown, hts⟩ (va_cwS 3 hts gX7_ofContract_X7_in rfl rfl rfl (by decide +kernel) ⟨Nat.le_of_ble_eq_true rfl, Nat.le_of_ble_eq_true rfl⟩) hE hP hD hS hA rfl rfl hl.1 (Nat.le_of_ble_eq_true rfl) dX7_ofContract_18 ⟨Nat.le_of_ble_eq_true rfl, Nat.le_of_ble_eq_true rfl⟩ (fun r_18 u_18 H locs hP hD hS q_18 => ?_)
  subst q_18
  refine g_bif_eq (tgt := 28) hx hb dX7_ofContract_21 (by decide) (fun c_21 => absurd c_21 (by decide)) (fun c_21 => ?_)
  refine lv_iconst (v := nI 0) hx hb dX7_ofContract_24 (by decide) ?_
  refine lv_goto (tgt := 29) hx hb dX7_ofContract_25 (by decide) ?_
  refine gv_set f0_mod rfl (by rfl) (fun k9 h9 kk9 => va_put (D := D) (ci := 8) (v := .int (nI (0))) (ty := .int) (C := RX7) (T := TX7) (N := 33) hx hb hts in_RX7 tyX7 tyX7_ok nmX7 hown hE.1 hP hD hS k9 h9 rfl 0 (by decide) (hts (.fieldLink RX7 94 "BasketryOfficeModel" "thrown" "I") (by decide +kernel)) (fun _ h9 => h9) rfl (by decide +kernel) rfl rfl (Nat.le_of_ble_eq_true rfl) dX7_ofContract_29 kk9) (fun H locs hP hD hS => ?_)
  refine lv_aload_n hx hb dX7_ofContract_32 rfl (lv_at hl 0 rfl) ?_
  have f_mod := g_eq (x := (a_mod, .inr (8, .int (nI (0)) :: x_mod_1 :: x_mod_2 :: x_mod_3 :: x_mod_4 :: x_mod_5 :: x_mod_6 :: x_mod_7 :: x_mod_8 :: x_mod_9 :: x_mod_10 :: x_mod_11 :: x_mod_12 :: x_mod_13 :: x_mod_14 :: x_mod_15 :: x_mod_16 :: x_mod_17 :: x_mod_18 :: x_mod_19 :: x_mod_20 :: x_mod_21 :: x_mod_22 :: .int (nI (nc)) :: x_mod_24 :: x_mod_25 :: x_mod_26 :: x_mod_27 :: x_mod_28 :: .ref a_mwa :: x_mod_30 :: x_mod_31 :: x_mod_32 :: []))) (f0_mod)
  refine va_get (D := D) (ci := 8) (v := .int (nI (0))) (C := RX7) (T := TX7) (N := 33) hx hb hts in_RX7 hown hE.1 (gv1 hP f_mod) 0 rfl rfl 0 (by decide) (hts (.fieldLink RX7 94 "BasketryOfficeModel" "thrown" "I") (by decide +kernel)) (fun _ h9 => h9) rfl dX7_ofContract_33 ?_
  refine g_if_le (tgt := 41) hx hb (by omega) dX7_ofContract_36 (by decide) (fun c_36 => ?_) (fun c_36 => absurd c_36 (by omega))
  refine lv_iload_n hx hb dX7_ofContract_41 rfl (lv_at hl 2 rfl) ?_
  refine g_if_ne (tgt := 54) hx hb (by omega) dX7_ofContract_42 (by decide) (fun c_42 => absurd c_42 (by omega)) (fun c_42 => ?_)
  refine lv_aload_n hx hb dX7_ofContract_45 rfl (lv_at hl 0 rfl) ?_
  refine va_get (D := D) (ci := 8) (v := .ref a_mwa) (C := RX7) (T := TX7) (N := 33) hx hb hts in_RX7 hown hE.1 (gv1 hP f_mod) 0 rfl rfl 29 (by decide) (hts (.fieldLink RX7 82 "BasketryOfficeModel" "wage" "[J") (by decide +kernel)) (fun _ h9 => h9) rfl dX7_ofContract_46 ?_
  refine lv_iload_n hx hb dX7_ofContract_49 rfl (lv_at hl 1 rfl) ?_
  have f_mwa := g_ne (x := (a_mod, .inr (8, .int (nI (0)) :: x_mod_1 :: x_mod_2 :: x_mod_3 :: x_mod_4 :: x_mod_5 :: x_mod_6 :: x_mod_7 :: x_mod_8 :: x_mod_9 :: x_mod_10 :: x_mod_11 :: x_mod_12 :: x_mod_13 :: x_mod_14 :: x_mod_15 :: x_mod_16 :: x_mod_17 :: x_mod_18 :: x_mod_19 :: x_mod_20 :: x_mod_21 :: x_mod_22 :: .int (nI (nc)) :: x_mod_24 :: x_mod_25 :: x_mod_26 :: x_mod_27 :: x_mod_28 :: .ref a_mwa :: x_mod_30 :: x_mod_31 :: x_mod_32 :: []))) (g_kne f0_mod f0_mwa (Nat.ne_of_beq_eq_false rfl)) (f0_mwa)
  refine g_Lald hx hb hE hP _ f_mwa (by omega) (by decide) dX7_ofContract_50 ?_
  have bd_50_1 := b_mwa (c9)
  refine lv_goto (tgt := 89) hx hb dX7_ofContract_51 (by decide) ?_
  refine g_lret hx hb hr hlocks () dX7_ofContract_89 hS hP hD ?_
  exact rfl

theorem in_c1_X7_ofContract_RX7 : ∀ w ∈ wsX70, w ∈ wsX7_ofContract := by decide +kernel
set_option maxHeartbeats 4000000 in
set_option maxRecDepth 100000 in
theorem c1_X7_ofContract (l : Launch) {D : va_G} {y : Nat → Nat} {ws : va_W} {x_mod_1 : Value} {x_mod_2 : Value} {x_mod_3 : Value} {x_mod_4 : Value} {x_mod_5 : Value} {x_mod_6 : Value} {x_mod_7 : Value} {x_mod_8 : Value} {x_mod_9 : Value} {x_mod_10 : Value} {x_mod_11 : Value} {x_mod_12 : Value} {x_mod_13 : Value} {x_mod_14 : Value} {x_mod_15 : Value} {x_mod_16 : Value} {x_mod_17 : Value} {x_mod_18 : Value} {x_mod_19 : Value} {x_mod_20 : Value} {x_mod_21 : Value} {x_mod_22 : Value} {x_mod_24 : Value} {x_mod_25 : Value} {x_mod_26 : Value} {x_mod_27 : Value} {x_mod_28 : Value} {x_mod_29 : Value} {x_mod_31 : Value} {x_mod_32 : Value} {p_mod p_mls a_mod a_mls : Nat} {mls : Nat → Nat} {c9 nc th : Nat} (f0_mod : ws[p_mod]? = some (a_mod, .inr (8, .int (nI (th)) :: x_mod_1 :: x_mod_2 :: x_mod_3 :: x_mod_4 :: x_mod_5 :: x_mod_6 :: x_mod_7 :: x_mod_8 :: x_mod_9 :: x_mod_10 :: x_mod_11 :: x_mod_12 :: x_mod_13 :: x_mod_14 :: x_mod_15 :: x_mod_16 :: x_mod_17 :: x_mod_18 :: x_mod_19 :: x_mod_20 :: x_mod_21 :: x_mod_22 :: .int (nI (nc)) :: x_mod_24 :: x_mod_25 :: x_mod_26 :: x_mod_27 :: x_mod_28 :: x_mod_29 :: .ref a_mls :: x_mod_31 :: x_mod_32 :: []))) (f0_mls : ws[p_mls]? = some (a_mls, eL y 10 mls)) (b_mls : ∀ k, mls k ≤ 2147483647) (hc : nc ≤ 10) (hc9 : c9 < nc) : gMl l yX7_ofContract wsX7_ofContract ({ frames := 1, cells := 0, slots := 0, locals := 22 }) D y [.ref a_mod, .int (nI (c9)), .int (nI (1))] ws (fun r (_ : Unit) => r = lN (mls c9)) (fun (_ : Unit) => (ws.set p_mod (a_mod, .inr (8, .int (nI (0)) :: x_mod_1 :: x_mod_2 :: x_mod_3 :: x_mod_4 :: x_mod_5 :: x_mod_6 :: x_mod_7 :: x_mod_8 :: x_mod_9 :: x_mod_10 :: x_mod_11 :: x_mod_12 :: x_mod_13 :: x_mod_14 :: x_mod_15 :: x_mod_16 :: x_mod_17 :: x_mod_18 :: x_mod_19 :: x_mod_20 :: x_mod_21 :: x_mod_22 :: .int (nI (nc)) :: x_mod_24 :: x_mod_25 :: x_mod_26 :: x_mod_27 :: x_mod_28 :: x_mod_29 :: .ref a_mls :: x_mod_31 :: x_mod_32 :: [])))) := by
  refine g_met_l (cc := cX7_ofContract) (maxL := 3) (by decide) rfl (Nat.le_of_ble_eq_true rfl) ?_
  intro p e s m below meth c A hx hb hml hr hts hown hnm hlocks hE hP hD hS hA ls hl
  have hown : s.vm.findClass RX7 = some m.cls := hown
  have hl : lv_has ls 3 [(0, .ref a_mod), (1, .int (nI (c9))), (2, .int (nI (1)))] := hl
  have in_RX7 := in_c1_X7_ofContract_RX7
  refine lv_aload_n hx hb dX7_ofContract_0 rfl (lv_at hl 0 rfl) ?_
  refine lv_iload_n hx hb dX7_ofContract_1 rfl (lv_at hl 1 rfl) ?_
  refine lv_iconst (v := nI 0) hx hb dX7_ofContract_2 (by decide) ?_
  refine lv_aload_n hx hb dX7_ofContract_3 rfl (lv_at hl 0 rfl) ?_
  refine va_get (D := D) (ci := 8) (v := .int (nI (nc))) (C := RX7) (T := TX7) (N := 33) hx hb hts in_RX7 hown hE.1 (gv1 hP f0_mod) 0 rfl rfl 23 (by decide) (hts (.fieldLink RX7 174 "BasketryOfficeModel" "contracts" "I") (by decide +kernel)) (fun _ h9 => h9) rfl dX7_ofContract_4 ?_
  refine lv_iconst (v := nI 1) hx hb dX7_ofContract_7 (by decide) ?_
  refine g_isub hx hb dX7_ofContract_8 rfl ?_
  refine gc_S_i (As := [.int (nI (c9)), .int (nI (0)), .int (nI nc - nI 1)]) (rest := [.ref a_mod]) (c_X7_in l) ⟨hx, hb, hml, hown, hts⟩ (va_cwS 3 hts gX7_ofContract_X7_in rfl rfl rfl (by decide +kernel) ⟨Nat.le_of_ble_eq_true rfl, Nat.le_of_ble_eq_true rfl⟩) hE hP hD hS hA rfl rfl hl.1 (Nat.le_of_ble_eq_true rfl) dX7_ofContract_9 ⟨Nat.le_of_ble_eq_true rfl, Nat.le_of_ble_eq_true rfl⟩ (fun r_9 u_9 H locs hP hD hS q_9 => ?_)
  subst q_9
  refine g_bif_eq (tgt := 28) hx hb dX7_ofContract_12 (by decide) (fun c_12 => absurd c_12 (by rw [in_sub (by omega), decide_eq_true (rq_lt hc9 (by omega))]; decide)) (fun c_12 => ?_)
  refine lv_iload_n hx hb dX7_ofContract_15 rfl (lv_at hl 2 rfl) ?_
  refine lv_iconst (v := nI 0) hx hb dX7_ofContract_16 (by decide) ?_
  refine lv_iconst (v := nI 3) hx hb dX7_ofContract_17 (by decide) ?_
  refine gc_S_i (As := [.int (nI (1)), .int (nI (0)), .int (nI (3))]) (rest := [.ref a_mod]) (c_X7_in l) ⟨hx, hb, hml, hown, hts⟩ (va_cwS 3 hts gX7_ofContract_X7_in rfl rfl rfl (by decide +kernel) ⟨Nat.le_of_ble_eq_true rfl, Nat.le_of_ble_eq_true rfl⟩) hE hP hD hS hA rfl rfl hl.1 (Nat.le_of_ble_eq_true rfl) dX7_ofContract_18 ⟨Nat.le_of_ble_eq_true rfl, Nat.le_of_ble_eq_true rfl⟩ (fun r_18 u_18 H locs hP hD hS q_18 => ?_)
  subst q_18
  refine g_bif_eq (tgt := 28) hx hb dX7_ofContract_21 (by decide) (fun c_21 => absurd c_21 (by decide)) (fun c_21 => ?_)
  refine lv_iconst (v := nI 0) hx hb dX7_ofContract_24 (by decide) ?_
  refine lv_goto (tgt := 29) hx hb dX7_ofContract_25 (by decide) ?_
  refine gv_set f0_mod rfl (by rfl) (fun k9 h9 kk9 => va_put (D := D) (ci := 8) (v := .int (nI (0))) (ty := .int) (C := RX7) (T := TX7) (N := 33) hx hb hts in_RX7 tyX7 tyX7_ok nmX7 hown hE.1 hP hD hS k9 h9 rfl 0 (by decide) (hts (.fieldLink RX7 94 "BasketryOfficeModel" "thrown" "I") (by decide +kernel)) (fun _ h9 => h9) rfl (by decide +kernel) rfl rfl (Nat.le_of_ble_eq_true rfl) dX7_ofContract_29 kk9) (fun H locs hP hD hS => ?_)
  refine lv_aload_n hx hb dX7_ofContract_32 rfl (lv_at hl 0 rfl) ?_
  have f_mod := g_eq (x := (a_mod, .inr (8, .int (nI (0)) :: x_mod_1 :: x_mod_2 :: x_mod_3 :: x_mod_4 :: x_mod_5 :: x_mod_6 :: x_mod_7 :: x_mod_8 :: x_mod_9 :: x_mod_10 :: x_mod_11 :: x_mod_12 :: x_mod_13 :: x_mod_14 :: x_mod_15 :: x_mod_16 :: x_mod_17 :: x_mod_18 :: x_mod_19 :: x_mod_20 :: x_mod_21 :: x_mod_22 :: .int (nI (nc)) :: x_mod_24 :: x_mod_25 :: x_mod_26 :: x_mod_27 :: x_mod_28 :: x_mod_29 :: .ref a_mls :: x_mod_31 :: x_mod_32 :: []))) (f0_mod)
  refine va_get (D := D) (ci := 8) (v := .int (nI (0))) (C := RX7) (T := TX7) (N := 33) hx hb hts in_RX7 hown hE.1 (gv1 hP f_mod) 0 rfl rfl 0 (by decide) (hts (.fieldLink RX7 94 "BasketryOfficeModel" "thrown" "I") (by decide +kernel)) (fun _ h9 => h9) rfl dX7_ofContract_33 ?_
  refine g_if_le (tgt := 41) hx hb (by omega) dX7_ofContract_36 (by decide) (fun c_36 => ?_) (fun c_36 => absurd c_36 (by omega))
  refine lv_iload_n hx hb dX7_ofContract_41 rfl (lv_at hl 2 rfl) ?_
  refine g_if_ne (tgt := 54) hx hb (by omega) dX7_ofContract_42 (by decide) (fun c_42 => ?_) (fun c_42 => absurd c_42 (by omega))
  refine lv_iload_n hx hb dX7_ofContract_54 rfl (lv_at hl 2 rfl) ?_
  refine lv_iconst (v := nI 1) hx hb dX7_ofContract_55 (by decide) ?_
  refine g_icmp_ne (tgt := 68) hx hb (by omega) (by omega) dX7_ofContract_56 (by decide) (fun c_56 => absurd c_56 (by omega)) (fun c_56 => ?_)
  refine lv_aload_n hx hb dX7_ofContract_59 rfl (lv_at hl 0 rfl) ?_
  refine va_get (D := D) (ci := 8) (v := .ref a_mls) (C := RX7) (T := TX7) (N := 33) hx hb hts in_RX7 hown hE.1 (gv1 hP f_mod) 0 rfl rfl 30 (by decide) (hts (.fieldLink RX7 85 "BasketryOfficeModel" "last" "[J") (by decide +kernel)) (fun _ h9 => h9) rfl dX7_ofContract_60 ?_
  refine lv_iload_n hx hb dX7_ofContract_63 rfl (lv_at hl 1 rfl) ?_
  have f_mls := g_ne (x := (a_mod, .inr (8, .int (nI (0)) :: x_mod_1 :: x_mod_2 :: x_mod_3 :: x_mod_4 :: x_mod_5 :: x_mod_6 :: x_mod_7 :: x_mod_8 :: x_mod_9 :: x_mod_10 :: x_mod_11 :: x_mod_12 :: x_mod_13 :: x_mod_14 :: x_mod_15 :: x_mod_16 :: x_mod_17 :: x_mod_18 :: x_mod_19 :: x_mod_20 :: x_mod_21 :: x_mod_22 :: .int (nI (nc)) :: x_mod_24 :: x_mod_25 :: x_mod_26 :: x_mod_27 :: x_mod_28 :: x_mod_29 :: .ref a_mls :: x_mod_31 :: x_mod_32 :: []))) (g_kne f0_mod f0_mls (Nat.ne_of_beq_eq_false rfl)) (f0_mls)
  refine g_Lald hx hb hE hP _ f_mls (by omega) (by decide) dX7_ofContract_64 ?_
  have bd_64_1 := b_mls (c9)
  refine lv_goto (tgt := 89) hx hb dX7_ofContract_65 (by decide) ?_
  refine g_lret hx hb hr hlocks () dX7_ofContract_89 hS hP hD ?_
  exact rfl

theorem in_c2_X7_ofContract_RX7 : ∀ w ∈ wsX70, w ∈ wsX7_ofContract := by decide +kernel
set_option maxHeartbeats 4000000 in
set_option maxRecDepth 100000 in
theorem c2_X7_ofContract (l : Launch) {D : va_G} {y : Nat → Nat} {ws : va_W} {x_mod_1 : Value} {x_mod_2 : Value} {x_mod_3 : Value} {x_mod_4 : Value} {x_mod_5 : Value} {x_mod_6 : Value} {x_mod_7 : Value} {x_mod_8 : Value} {x_mod_9 : Value} {x_mod_10 : Value} {x_mod_11 : Value} {x_mod_12 : Value} {x_mod_13 : Value} {x_mod_14 : Value} {x_mod_15 : Value} {x_mod_16 : Value} {x_mod_17 : Value} {x_mod_18 : Value} {x_mod_19 : Value} {x_mod_20 : Value} {x_mod_21 : Value} {x_mod_22 : Value} {x_mod_24 : Value} {x_mod_25 : Value} {x_mod_26 : Value} {x_mod_27 : Value} {x_mod_28 : Value} {x_mod_29 : Value} {x_mod_30 : Value} {x_mod_32 : Value} {p_mod p_mlm a_mod a_mlm : Nat} {mlm : Nat → Nat} {c9 nc th : Nat} (f0_mod : ws[p_mod]? = some (a_mod, .inr (8, .int (nI (th)) :: x_mod_1 :: x_mod_2 :: x_mod_3 :: x_mod_4 :: x_mod_5 :: x_mod_6 :: x_mod_7 :: x_mod_8 :: x_mod_9 :: x_mod_10 :: x_mod_11 :: x_mod_12 :: x_mod_13 :: x_mod_14 :: x_mod_15 :: x_mod_16 :: x_mod_17 :: x_mod_18 :: x_mod_19 :: x_mod_20 :: x_mod_21 :: x_mod_22 :: .int (nI (nc)) :: x_mod_24 :: x_mod_25 :: x_mod_26 :: x_mod_27 :: x_mod_28 :: x_mod_29 :: x_mod_30 :: .ref a_mlm :: x_mod_32 :: []))) (f0_mlm : ws[p_mlm]? = some (a_mlm, eN y 10 mlm)) (b_mlm : ∀ k, mlm k ≤ 23) (hc : nc ≤ 10) (hc9 : c9 < nc) : gMl l yX7_ofContract wsX7_ofContract ({ frames := 1, cells := 0, slots := 0, locals := 22 }) D y [.ref a_mod, .int (nI (c9)), .int (nI (2))] ws (fun r (_ : Unit) => r = lN (mlm c9)) (fun (_ : Unit) => (ws.set p_mod (a_mod, .inr (8, .int (nI (0)) :: x_mod_1 :: x_mod_2 :: x_mod_3 :: x_mod_4 :: x_mod_5 :: x_mod_6 :: x_mod_7 :: x_mod_8 :: x_mod_9 :: x_mod_10 :: x_mod_11 :: x_mod_12 :: x_mod_13 :: x_mod_14 :: x_mod_15 :: x_mod_16 :: x_mod_17 :: x_mod_18 :: x_mod_19 :: x_mod_20 :: x_mod_21 :: x_mod_22 :: .int (nI (nc)) :: x_mod_24 :: x_mod_25 :: x_mod_26 :: x_mod_27 :: x_mod_28 :: x_mod_29 :: x_mod_30 :: .ref a_mlm :: x_mod_32 :: [])))) := by
  refine g_met_l (cc := cX7_ofContract) (maxL := 3) (by decide) rfl (Nat.le_of_ble_eq_true rfl) ?_
  intro p e s m below meth c A hx hb hml hr hts hown hnm hlocks hE hP hD hS hA ls hl
  have hown : s.vm.findClass RX7 = some m.cls := hown
  have hl : lv_has ls 3 [(0, .ref a_mod), (1, .int (nI (c9))), (2, .int (nI (2)))] := hl
  have in_RX7 := in_c2_X7_ofContract_RX7
  refine lv_aload_n hx hb dX7_ofContract_0 rfl (lv_at hl 0 rfl) ?_
  refine lv_iload_n hx hb dX7_ofContract_1 rfl (lv_at hl 1 rfl) ?_
  refine lv_iconst (v := nI 0) hx hb dX7_ofContract_2 (by decide) ?_
  refine lv_aload_n hx hb dX7_ofContract_3 rfl (lv_at hl 0 rfl) ?_
  refine va_get (D := D) (ci := 8) (v := .int (nI (nc))) (C := RX7) (T := TX7) (N := 33) hx hb hts in_RX7 hown hE.1 (gv1 hP f0_mod) 0 rfl rfl 23 (by decide) (hts (.fieldLink RX7 174 "BasketryOfficeModel" "contracts" "I") (by decide +kernel)) (fun _ h9 => h9) rfl dX7_ofContract_4 ?_
  refine lv_iconst (v := nI 1) hx hb dX7_ofContract_7 (by decide) ?_
  refine g_isub hx hb dX7_ofContract_8 rfl ?_
  refine gc_S_i (As := [.int (nI (c9)), .int (nI (0)), .int (nI nc - nI 1)]) (rest := [.ref a_mod]) (c_X7_in l) ⟨hx, hb, hml, hown, hts⟩ (va_cwS 3 hts gX7_ofContract_X7_in rfl rfl rfl (by decide +kernel) ⟨Nat.le_of_ble_eq_true rfl, Nat.le_of_ble_eq_true rfl⟩) hE hP hD hS hA rfl rfl hl.1 (Nat.le_of_ble_eq_true rfl) dX7_ofContract_9 ⟨Nat.le_of_ble_eq_true rfl, Nat.le_of_ble_eq_true rfl⟩ (fun r_9 u_9 H locs hP hD hS q_9 => ?_)
  subst q_9
  refine g_bif_eq (tgt := 28) hx hb dX7_ofContract_12 (by decide) (fun c_12 => absurd c_12 (by rw [in_sub (by omega), decide_eq_true (rq_lt hc9 (by omega))]; decide)) (fun c_12 => ?_)
  refine lv_iload_n hx hb dX7_ofContract_15 rfl (lv_at hl 2 rfl) ?_
  refine lv_iconst (v := nI 0) hx hb dX7_ofContract_16 (by decide) ?_
  refine lv_iconst (v := nI 3) hx hb dX7_ofContract_17 (by decide) ?_
  refine gc_S_i (As := [.int (nI (2)), .int (nI (0)), .int (nI (3))]) (rest := [.ref a_mod]) (c_X7_in l) ⟨hx, hb, hml, hown, hts⟩ (va_cwS 3 hts gX7_ofContract_X7_in rfl rfl rfl (by decide +kernel) ⟨Nat.le_of_ble_eq_true rfl, Nat.le_of_ble_eq_true rfl⟩) hE hP hD hS hA rfl rfl hl.1 (Nat.le_of_ble_eq_true rfl) dX7_ofContract_18 ⟨Nat.le_of_ble_eq_true rfl, Nat.le_of_ble_eq_true rfl⟩ (fun r_18 u_18 H locs hP hD hS q_18 => ?_)
  subst q_18
  refine g_bif_eq (tgt := 28) hx hb dX7_ofContract_21 (by decide) (fun c_21 => absurd c_21 (by decide)) (fun c_21 => ?_)
  refine lv_iconst (v := nI 0) hx hb dX7_ofContract_24 (by decide) ?_
  refine lv_goto (tgt := 29) hx hb dX7_ofContract_25 (by decide) ?_
  refine gv_set f0_mod rfl (by rfl) (fun k9 h9 kk9 => va_put (D := D) (ci := 8) (v := .int (nI (0))) (ty := .int) (C := RX7) (T := TX7) (N := 33) hx hb hts in_RX7 tyX7 tyX7_ok nmX7 hown hE.1 hP hD hS k9 h9 rfl 0 (by decide) (hts (.fieldLink RX7 94 "BasketryOfficeModel" "thrown" "I") (by decide +kernel)) (fun _ h9 => h9) rfl (by decide +kernel) rfl rfl (Nat.le_of_ble_eq_true rfl) dX7_ofContract_29 kk9) (fun H locs hP hD hS => ?_)
  refine lv_aload_n hx hb dX7_ofContract_32 rfl (lv_at hl 0 rfl) ?_
  have f_mod := g_eq (x := (a_mod, .inr (8, .int (nI (0)) :: x_mod_1 :: x_mod_2 :: x_mod_3 :: x_mod_4 :: x_mod_5 :: x_mod_6 :: x_mod_7 :: x_mod_8 :: x_mod_9 :: x_mod_10 :: x_mod_11 :: x_mod_12 :: x_mod_13 :: x_mod_14 :: x_mod_15 :: x_mod_16 :: x_mod_17 :: x_mod_18 :: x_mod_19 :: x_mod_20 :: x_mod_21 :: x_mod_22 :: .int (nI (nc)) :: x_mod_24 :: x_mod_25 :: x_mod_26 :: x_mod_27 :: x_mod_28 :: x_mod_29 :: x_mod_30 :: .ref a_mlm :: x_mod_32 :: []))) (f0_mod)
  refine va_get (D := D) (ci := 8) (v := .int (nI (0))) (C := RX7) (T := TX7) (N := 33) hx hb hts in_RX7 hown hE.1 (gv1 hP f_mod) 0 rfl rfl 0 (by decide) (hts (.fieldLink RX7 94 "BasketryOfficeModel" "thrown" "I") (by decide +kernel)) (fun _ h9 => h9) rfl dX7_ofContract_33 ?_
  refine g_if_le (tgt := 41) hx hb (by omega) dX7_ofContract_36 (by decide) (fun c_36 => ?_) (fun c_36 => absurd c_36 (by omega))
  refine lv_iload_n hx hb dX7_ofContract_41 rfl (lv_at hl 2 rfl) ?_
  refine g_if_ne (tgt := 54) hx hb (by omega) dX7_ofContract_42 (by decide) (fun c_42 => ?_) (fun c_42 => absurd c_42 (by omega))
  refine lv_iload_n hx hb dX7_ofContract_54 rfl (lv_at hl 2 rfl) ?_
  refine lv_iconst (v := nI 1) hx hb dX7_ofContract_55 (by decide) ?_
  refine g_icmp_ne (tgt := 68) hx hb (by omega) (by omega) dX7_ofContract_56 (by decide) (fun c_56 => ?_) (fun c_56 => absurd c_56 (by omega))
  refine lv_iload_n hx hb dX7_ofContract_68 rfl (lv_at hl 2 rfl) ?_
  refine lv_iconst (v := nI 2) hx hb dX7_ofContract_69 (by decide) ?_
  refine g_icmp_ne (tgt := 83) hx hb (by omega) (by omega) dX7_ofContract_70 (by decide) (fun c_70 => absurd c_70 (by omega)) (fun c_70 => ?_)
  refine lv_aload_n hx hb dX7_ofContract_73 rfl (lv_at hl 0 rfl) ?_
  refine va_get (D := D) (ci := 8) (v := .ref a_mlm) (C := RX7) (T := TX7) (N := 33) hx hb hts in_RX7 hown hE.1 (gv1 hP f_mod) 0 rfl rfl 31 (by decide) (hts (.fieldLink RX7 88 "BasketryOfficeModel" "lastMonth" "[I") (by decide +kernel)) (fun _ h9 => h9) rfl dX7_ofContract_74 ?_
  refine lv_iload_n hx hb dX7_ofContract_77 rfl (lv_at hl 1 rfl) ?_
  have f_mlm := g_ne (x := (a_mod, .inr (8, .int (nI (0)) :: x_mod_1 :: x_mod_2 :: x_mod_3 :: x_mod_4 :: x_mod_5 :: x_mod_6 :: x_mod_7 :: x_mod_8 :: x_mod_9 :: x_mod_10 :: x_mod_11 :: x_mod_12 :: x_mod_13 :: x_mod_14 :: x_mod_15 :: x_mod_16 :: x_mod_17 :: x_mod_18 :: x_mod_19 :: x_mod_20 :: x_mod_21 :: x_mod_22 :: .int (nI (nc)) :: x_mod_24 :: x_mod_25 :: x_mod_26 :: x_mod_27 :: x_mod_28 :: x_mod_29 :: x_mod_30 :: .ref a_mlm :: x_mod_32 :: []))) (g_kne f0_mod f0_mlm (Nat.ne_of_beq_eq_false rfl)) (f0_mlm)
  refine g_nald hx hb hE hP _ f_mlm (by omega) (by decide) dX7_ofContract_78 ?_
  have bd_78_1 := b_mlm (c9)
  refine lv_i2l (v := lN (mlm c9)) hx hb dX7_ofContract_79 (nI_l (by omega)) ?_
  refine lv_goto (tgt := 89) hx hb dX7_ofContract_80 (by decide) ?_
  refine g_lret hx hb hr hlocks () dX7_ofContract_89 hS hP hD ?_
  exact rfl

theorem in_c3_X7_ofContract_RX7 : ∀ w ∈ wsX70, w ∈ wsX7_ofContract := by decide +kernel
set_option maxHeartbeats 4000000 in
set_option maxRecDepth 100000 in
theorem c3_X7_ofContract (l : Launch) {D : va_G} {y : Nat → Nat} {ws : va_W} {x_mod_1 : Value} {x_mod_2 : Value} {x_mod_3 : Value} {x_mod_4 : Value} {x_mod_5 : Value} {x_mod_6 : Value} {x_mod_7 : Value} {x_mod_8 : Value} {x_mod_9 : Value} {x_mod_10 : Value} {x_mod_11 : Value} {x_mod_12 : Value} {x_mod_13 : Value} {x_mod_14 : Value} {x_mod_15 : Value} {x_mod_16 : Value} {x_mod_17 : Value} {x_mod_18 : Value} {x_mod_19 : Value} {x_mod_20 : Value} {x_mod_21 : Value} {x_mod_22 : Value} {x_mod_24 : Value} {x_mod_25 : Value} {x_mod_26 : Value} {x_mod_27 : Value} {x_mod_28 : Value} {x_mod_29 : Value} {x_mod_30 : Value} {x_mod_31 : Value} {p_mod p_mpa a_mod a_mpa : Nat} {mpa : Nat → Nat} {c9 nc th : Nat} (f0_mod : ws[p_mod]? = some (a_mod, .inr (8, .int (nI (th)) :: x_mod_1 :: x_mod_2 :: x_mod_3 :: x_mod_4 :: x_mod_5 :: x_mod_6 :: x_mod_7 :: x_mod_8 :: x_mod_9 :: x_mod_10 :: x_mod_11 :: x_mod_12 :: x_mod_13 :: x_mod_14 :: x_mod_15 :: x_mod_16 :: x_mod_17 :: x_mod_18 :: x_mod_19 :: x_mod_20 :: x_mod_21 :: x_mod_22 :: .int (nI (nc)) :: x_mod_24 :: x_mod_25 :: x_mod_26 :: x_mod_27 :: x_mod_28 :: x_mod_29 :: x_mod_30 :: x_mod_31 :: .ref a_mpa :: []))) (f0_mpa : ws[p_mpa]? = some (a_mpa, eL y 10 mpa)) (hc : nc ≤ 10) (hc9 : c9 < nc) : gMl l yX7_ofContract wsX7_ofContract ({ frames := 1, cells := 0, slots := 0, locals := 22 }) D y [.ref a_mod, .int (nI (c9)), .int (nI (3))] ws (fun r (_ : Unit) => r = lN (mpa c9)) (fun (_ : Unit) => (ws.set p_mod (a_mod, .inr (8, .int (nI (0)) :: x_mod_1 :: x_mod_2 :: x_mod_3 :: x_mod_4 :: x_mod_5 :: x_mod_6 :: x_mod_7 :: x_mod_8 :: x_mod_9 :: x_mod_10 :: x_mod_11 :: x_mod_12 :: x_mod_13 :: x_mod_14 :: x_mod_15 :: x_mod_16 :: x_mod_17 :: x_mod_18 :: x_mod_19 :: x_mod_20 :: x_mod_21 :: x_mod_22 :: .int (nI (nc)) :: x_mod_24 :: x_mod_25 :: x_mod_26 :: x_mod_27 :: x_mod_28 :: x_mod_29 :: x_mod_30 :: x_mod_31 :: .ref a_mpa :: [])))) := by
  refine g_met_l (cc := cX7_ofContract) (maxL := 3) (by decide) rfl (Nat.le_of_ble_eq_true rfl) ?_
  intro p e s m below meth c A hx hb hml hr hts hown hnm hlocks hE hP hD hS hA ls hl
  have hown : s.vm.findClass RX7 = some m.cls := hown
  have hl : lv_has ls 3 [(0, .ref a_mod), (1, .int (nI (c9))), (2, .int (nI (3)))] := hl
  have in_RX7 := in_c3_X7_ofContract_RX7
  refine lv_aload_n hx hb dX7_ofContract_0 rfl (lv_at hl 0 rfl) ?_
  refine lv_iload_n hx hb dX7_ofContract_1 rfl (lv_at hl 1 rfl) ?_
  refine lv_iconst (v := nI 0) hx hb dX7_ofContract_2 (by decide) ?_
  refine lv_aload_n hx hb dX7_ofContract_3 rfl (lv_at hl 0 rfl) ?_
  refine va_get (D := D) (ci := 8) (v := .int (nI (nc))) (C := RX7) (T := TX7) (N := 33) hx hb hts in_RX7 hown hE.1 (gv1 hP f0_mod) 0 rfl rfl 23 (by decide) (hts (.fieldLink RX7 174 "BasketryOfficeModel" "contracts" "I") (by decide +kernel)) (fun _ h9 => h9) rfl dX7_ofContract_4 ?_
  refine lv_iconst (v := nI 1) hx hb dX7_ofContract_7 (by decide) ?_
  refine g_isub hx hb dX7_ofContract_8 rfl ?_
  refine gc_S_i (As := [.int (nI (c9)), .int (nI (0)), .int (nI nc - nI 1)]) (rest := [.ref a_mod]) (c_X7_in l) ⟨hx, hb, hml, hown, hts⟩ (va_cwS 3 hts gX7_ofContract_X7_in rfl rfl rfl (by decide +kernel) ⟨Nat.le_of_ble_eq_true rfl, Nat.le_of_ble_eq_true rfl⟩) hE hP hD hS hA rfl rfl hl.1 (Nat.le_of_ble_eq_true rfl) dX7_ofContract_9 ⟨Nat.le_of_ble_eq_true rfl, Nat.le_of_ble_eq_true rfl⟩ (fun r_9 u_9 H locs hP hD hS q_9 => ?_)
  subst q_9
  refine g_bif_eq (tgt := 28) hx hb dX7_ofContract_12 (by decide) (fun c_12 => absurd c_12 (by rw [in_sub (by omega), decide_eq_true (rq_lt hc9 (by omega))]; decide)) (fun c_12 => ?_)
  refine lv_iload_n hx hb dX7_ofContract_15 rfl (lv_at hl 2 rfl) ?_
  refine lv_iconst (v := nI 0) hx hb dX7_ofContract_16 (by decide) ?_
  refine lv_iconst (v := nI 3) hx hb dX7_ofContract_17 (by decide) ?_
  refine gc_S_i (As := [.int (nI (3)), .int (nI (0)), .int (nI (3))]) (rest := [.ref a_mod]) (c_X7_in l) ⟨hx, hb, hml, hown, hts⟩ (va_cwS 3 hts gX7_ofContract_X7_in rfl rfl rfl (by decide +kernel) ⟨Nat.le_of_ble_eq_true rfl, Nat.le_of_ble_eq_true rfl⟩) hE hP hD hS hA rfl rfl hl.1 (Nat.le_of_ble_eq_true rfl) dX7_ofContract_18 ⟨Nat.le_of_ble_eq_true rfl, Nat.le_of_ble_eq_true rfl⟩ (fun r_18 u_18 H locs hP hD hS q_18 => ?_)
  subst q_18
  refine g_bif_eq (tgt := 28) hx hb dX7_ofContract_21 (by decide) (fun c_21 => absurd c_21 (by decide)) (fun c_21 => ?_)
  refine lv_iconst (v := nI 0) hx hb dX7_ofContract_24 (by decide) ?_
  refine lv_goto (tgt := 29) hx hb dX7_ofContract_25 (by decide) ?_
  refine gv_set f0_mod rfl (by rfl) (fun k9 h9 kk9 => va_put (D := D) (ci := 8) (v := .int (nI (0))) (ty := .int) (C := RX7) (T := TX7) (N := 33) hx hb hts in_RX7 tyX7 tyX7_ok nmX7 hown hE.1 hP hD hS k9 h9 rfl 0 (by decide) (hts (.fieldLink RX7 94 "BasketryOfficeModel" "thrown" "I") (by decide +kernel)) (fun _ h9 => h9) rfl (by decide +kernel) rfl rfl (Nat.le_of_ble_eq_true rfl) dX7_ofContract_29 kk9) (fun H locs hP hD hS => ?_)
  refine lv_aload_n hx hb dX7_ofContract_32 rfl (lv_at hl 0 rfl) ?_
  have f_mod := g_eq (x := (a_mod, .inr (8, .int (nI (0)) :: x_mod_1 :: x_mod_2 :: x_mod_3 :: x_mod_4 :: x_mod_5 :: x_mod_6 :: x_mod_7 :: x_mod_8 :: x_mod_9 :: x_mod_10 :: x_mod_11 :: x_mod_12 :: x_mod_13 :: x_mod_14 :: x_mod_15 :: x_mod_16 :: x_mod_17 :: x_mod_18 :: x_mod_19 :: x_mod_20 :: x_mod_21 :: x_mod_22 :: .int (nI (nc)) :: x_mod_24 :: x_mod_25 :: x_mod_26 :: x_mod_27 :: x_mod_28 :: x_mod_29 :: x_mod_30 :: x_mod_31 :: .ref a_mpa :: []))) (f0_mod)
  refine va_get (D := D) (ci := 8) (v := .int (nI (0))) (C := RX7) (T := TX7) (N := 33) hx hb hts in_RX7 hown hE.1 (gv1 hP f_mod) 0 rfl rfl 0 (by decide) (hts (.fieldLink RX7 94 "BasketryOfficeModel" "thrown" "I") (by decide +kernel)) (fun _ h9 => h9) rfl dX7_ofContract_33 ?_
  refine g_if_le (tgt := 41) hx hb (by omega) dX7_ofContract_36 (by decide) (fun c_36 => ?_) (fun c_36 => absurd c_36 (by omega))
  refine lv_iload_n hx hb dX7_ofContract_41 rfl (lv_at hl 2 rfl) ?_
  refine g_if_ne (tgt := 54) hx hb (by omega) dX7_ofContract_42 (by decide) (fun c_42 => ?_) (fun c_42 => absurd c_42 (by omega))
  refine lv_iload_n hx hb dX7_ofContract_54 rfl (lv_at hl 2 rfl) ?_
  refine lv_iconst (v := nI 1) hx hb dX7_ofContract_55 (by decide) ?_
  refine g_icmp_ne (tgt := 68) hx hb (by omega) (by omega) dX7_ofContract_56 (by decide) (fun c_56 => ?_) (fun c_56 => absurd c_56 (by omega))
  refine lv_iload_n hx hb dX7_ofContract_68 rfl (lv_at hl 2 rfl) ?_
  refine lv_iconst (v := nI 2) hx hb dX7_ofContract_69 (by decide) ?_
  refine g_icmp_ne (tgt := 83) hx hb (by omega) (by omega) dX7_ofContract_70 (by decide) (fun c_70 => ?_) (fun c_70 => absurd c_70 (by omega))
  refine lv_aload_n hx hb dX7_ofContract_83 rfl (lv_at hl 0 rfl) ?_
  refine va_get (D := D) (ci := 8) (v := .ref a_mpa) (C := RX7) (T := TX7) (N := 33) hx hb hts in_RX7 hown hE.1 (gv1 hP f_mod) 0 rfl rfl 32 (by decide) (hts (.fieldLink RX7 91 "BasketryOfficeModel" "paid" "[J") (by decide +kernel)) (fun _ h9 => h9) rfl dX7_ofContract_84 ?_
  refine lv_iload_n hx hb dX7_ofContract_87 rfl (lv_at hl 1 rfl) ?_
  have f_mpa := g_ne (x := (a_mod, .inr (8, .int (nI (0)) :: x_mod_1 :: x_mod_2 :: x_mod_3 :: x_mod_4 :: x_mod_5 :: x_mod_6 :: x_mod_7 :: x_mod_8 :: x_mod_9 :: x_mod_10 :: x_mod_11 :: x_mod_12 :: x_mod_13 :: x_mod_14 :: x_mod_15 :: x_mod_16 :: x_mod_17 :: x_mod_18 :: x_mod_19 :: x_mod_20 :: x_mod_21 :: x_mod_22 :: .int (nI (nc)) :: x_mod_24 :: x_mod_25 :: x_mod_26 :: x_mod_27 :: x_mod_28 :: x_mod_29 :: x_mod_30 :: x_mod_31 :: .ref a_mpa :: []))) (g_kne f0_mod f0_mpa (Nat.ne_of_beq_eq_false rfl)) (f0_mpa)
  refine g_Lald hx hb hE hP _ f_mpa (by omega) (by decide) dX7_ofContract_88 ?_
  refine g_lret hx hb hr hlocks () dX7_ofContract_89 hS hP hD ?_
  exact rfl

theorem in_x0_X7_count_RX7 : ∀ w ∈ wsX70, w ∈ wsX7_count := by decide +kernel
set_option maxHeartbeats 4000000 in
set_option maxRecDepth 100000 in
theorem x0_X7_count (l : Launch) {D : va_G} {y : Nat → Nat} {ws : va_W} {x_mod_1 : Value} {x_mod_2 : Value} {x_mod_3 : Value} {x_mod_4 : Value} {x_mod_5 : Value} {x_mod_6 : Value} {x_mod_7 : Value} {x_mod_8 : Value} {x_mod_9 : Value} {x_mod_10 : Value} {x_mod_11 : Value} {x_mod_12 : Value} {x_mod_13 : Value} {x_mod_14 : Value} {x_mod_15 : Value} {x_mod_16 : Value} {x_mod_17 : Value} {x_mod_18 : Value} {x_mod_19 : Value} {x_mod_20 : Value} {x_mod_21 : Value} {x_mod_22 : Value} {x_mod_23 : Value} {x_mod_24 : Value} {x_mod_25 : Value} {x_mod_26 : Value} {x_mod_27 : Value} {x_mod_28 : Value} {x_mod_29 : Value} {x_mod_30 : Value} {x_mod_31 : Value} {x_mod_32 : Value} {p_mod a_mod : Nat} {x : Int32} {th : Nat} (f0_mod : ws[p_mod]? = some (a_mod, .inr (8, .int (nI (th)) :: x_mod_1 :: x_mod_2 :: x_mod_3 :: x_mod_4 :: x_mod_5 :: x_mod_6 :: x_mod_7 :: x_mod_8 :: x_mod_9 :: x_mod_10 :: x_mod_11 :: x_mod_12 :: x_mod_13 :: x_mod_14 :: x_mod_15 :: x_mod_16 :: x_mod_17 :: x_mod_18 :: x_mod_19 :: x_mod_20 :: x_mod_21 :: x_mod_22 :: x_mod_23 :: x_mod_24 :: x_mod_25 :: x_mod_26 :: x_mod_27 :: x_mod_28 :: x_mod_29 :: x_mod_30 :: x_mod_31 :: x_mod_32 :: []))) (hbad : x < nI 0 ∨ nI 4 < x) : gMi l yX7_count wsX7_count ({ frames := 1, cells := 0, slots := 0, locals := 22 }) D y [.ref a_mod, .int (x)] ws (fun r (_ : Unit) => r = nI 0) (fun (_ : Unit) => (ws.set p_mod (a_mod, .inr (8, .int (nI (1)) :: x_mod_1 :: x_mod_2 :: x_mod_3 :: x_mod_4 :: x_mod_5 :: x_mod_6 :: x_mod_7 :: x_mod_8 :: x_mod_9 :: x_mod_10 :: x_mod_11 :: x_mod_12 :: x_mod_13 :: x_mod_14 :: x_mod_15 :: x_mod_16 :: x_mod_17 :: x_mod_18 :: x_mod_19 :: x_mod_20 :: x_mod_21 :: x_mod_22 :: x_mod_23 :: x_mod_24 :: x_mod_25 :: x_mod_26 :: x_mod_27 :: x_mod_28 :: x_mod_29 :: x_mod_30 :: x_mod_31 :: x_mod_32 :: [])))) := by
  refine g_met_i (cc := cX7_count) (maxL := 2) (by decide) rfl (Nat.le_of_ble_eq_true rfl) ?_
  intro p e s m below meth c A hx hb hml hr hts hown hnm hlocks hE hP hD hS hA ls hl
  have hown : s.vm.findClass RX7 = some m.cls := hown
  have hl : lv_has ls 2 [(0, .ref a_mod), (1, .int (x))] := hl
  have in_RX7 := in_x0_X7_count_RX7
  refine lv_aload_n hx hb dX7_count_0 rfl (lv_at hl 0 rfl) ?_
  refine lv_iload_n hx hb dX7_count_1 rfl (lv_at hl 1 rfl) ?_
  refine lv_iconst (v := nI 0) hx hb dX7_count_2 (by decide) ?_
  refine lv_iconst (v := nI 4) hx hb dX7_count_3 (by decide) ?_
  refine gc_S_i (As := [.int (x), .int (nI (0)), .int (nI (4))]) (rest := [.ref a_mod]) (c_X7_in l) ⟨hx, hb, hml, hown, hts⟩ (va_cwS 3 hts gX7_count_X7_in rfl rfl rfl (by decide +kernel) ⟨Nat.le_of_ble_eq_true rfl, Nat.le_of_ble_eq_true rfl⟩) hE hP hD hS hA rfl rfl hl.1 (Nat.le_of_ble_eq_true rfl) dX7_count_4 ⟨Nat.le_of_ble_eq_true rfl, Nat.le_of_ble_eq_true rfl⟩ (fun r_4 u_4 H locs hP hD hS q_4 => ?_)
  subst q_4
  refine g_bif_eq (tgt := 14) hx hb dX7_count_7 (by decide) (fun c_7 => ?_) (fun c_7 => absurd c_7 (by rw [decide_eq_false (fun z => z hbad)]; decide))
  refine lv_iconst (v := nI 1) hx hb dX7_count_14 (by decide) ?_
  refine gv_set f0_mod rfl (by rfl) (fun k9 h9 kk9 => va_put (D := D) (ci := 8) (v := .int (nI (1))) (ty := .int) (C := RX7) (T := TX7) (N := 33) hx hb hts in_RX7 tyX7 tyX7_ok nmX7 hown hE.1 hP hD hS k9 h9 rfl 0 (by decide) (hts (.fieldLink RX7 94 "BasketryOfficeModel" "thrown" "I") (by decide +kernel)) (fun _ h9 => h9) rfl (by decide +kernel) rfl rfl (Nat.le_of_ble_eq_true rfl) dX7_count_15 kk9) (fun H locs hP hD hS => ?_)
  refine lv_aload_n hx hb dX7_count_18 rfl (lv_at hl 0 rfl) ?_
  have f_mod := g_eq (x := (a_mod, .inr (8, .int (nI (1)) :: x_mod_1 :: x_mod_2 :: x_mod_3 :: x_mod_4 :: x_mod_5 :: x_mod_6 :: x_mod_7 :: x_mod_8 :: x_mod_9 :: x_mod_10 :: x_mod_11 :: x_mod_12 :: x_mod_13 :: x_mod_14 :: x_mod_15 :: x_mod_16 :: x_mod_17 :: x_mod_18 :: x_mod_19 :: x_mod_20 :: x_mod_21 :: x_mod_22 :: x_mod_23 :: x_mod_24 :: x_mod_25 :: x_mod_26 :: x_mod_27 :: x_mod_28 :: x_mod_29 :: x_mod_30 :: x_mod_31 :: x_mod_32 :: []))) (f0_mod)
  refine va_get (D := D) (ci := 8) (v := .int (nI (1))) (C := RX7) (T := TX7) (N := 33) hx hb hts in_RX7 hown hE.1 (gv1 hP f_mod) 0 rfl rfl 0 (by decide) (hts (.fieldLink RX7 94 "BasketryOfficeModel" "thrown" "I") (by decide +kernel)) (fun _ h9 => h9) rfl dX7_count_19 ?_
  refine g_if_le (tgt := 27) hx hb (by omega) dX7_count_22 (by decide) (fun c_22 => absurd c_22 (by omega)) (fun c_22 => ?_)
  refine lv_iconst (v := nI 0) hx hb dX7_count_25 (by decide) ?_
  refine g_iret hx hb hr hlocks () dX7_count_26 hS hP hD ?_
  exact rfl

theorem in_c0_X7_count_RX7 : ∀ w ∈ wsX70, w ∈ wsX7_count := by decide +kernel
set_option maxHeartbeats 4000000 in
set_option maxRecDepth 100000 in
theorem c0_X7_count (l : Launch) {D : va_G} {y : Nat → Nat} {ws : va_W} {x_mod_2 : Value} {x_mod_3 : Value} {x_mod_4 : Value} {x_mod_8 : Value} {x_mod_9 : Value} {x_mod_10 : Value} {x_mod_11 : Value} {x_mod_12 : Value} {x_mod_13 : Value} {x_mod_14 : Value} {x_mod_15 : Value} {x_mod_16 : Value} {x_mod_17 : Value} {x_mod_18 : Value} {x_mod_19 : Value} {x_mod_20 : Value} {x_mod_21 : Value} {x_mod_22 : Value} {x_mod_24 : Value} {x_mod_25 : Value} {x_mod_26 : Value} {x_mod_27 : Value} {x_mod_28 : Value} {x_mod_29 : Value} {x_mod_30 : Value} {x_mod_31 : Value} {x_mod_32 : Value} {p_mod a_mod : Nat} {n nw qn nc fq th : Nat} (f0_mod : ws[p_mod]? = some (a_mod, .inr (8, .int (nI (th)) :: .int (nI (n)) :: x_mod_2 :: x_mod_3 :: x_mod_4 :: .int (nI (nw)) :: .int (nI (qn)) :: .int (nI (fq)) :: x_mod_8 :: x_mod_9 :: x_mod_10 :: x_mod_11 :: x_mod_12 :: x_mod_13 :: x_mod_14 :: x_mod_15 :: x_mod_16 :: x_mod_17 :: x_mod_18 :: x_mod_19 :: x_mod_20 :: x_mod_21 :: x_mod_22 :: .int (nI (nc)) :: x_mod_24 :: x_mod_25 :: x_mod_26 :: x_mod_27 :: x_mod_28 :: x_mod_29 :: x_mod_30 :: x_mod_31 :: x_mod_32 :: []))) : gMi l yX7_count wsX7_count ({ frames := 1, cells := 0, slots := 0, locals := 22 }) D y [.ref a_mod, .int (nI (0))] ws (fun r (_ : Unit) => r = nI n) (fun (_ : Unit) => (ws.set p_mod (a_mod, .inr (8, .int (nI (0)) :: .int (nI (n)) :: x_mod_2 :: x_mod_3 :: x_mod_4 :: .int (nI (nw)) :: .int (nI (qn)) :: .int (nI (fq)) :: x_mod_8 :: x_mod_9 :: x_mod_10 :: x_mod_11 :: x_mod_12 :: x_mod_13 :: x_mod_14 :: x_mod_15 :: x_mod_16 :: x_mod_17 :: x_mod_18 :: x_mod_19 :: x_mod_20 :: x_mod_21 :: x_mod_22 :: .int (nI (nc)) :: x_mod_24 :: x_mod_25 :: x_mod_26 :: x_mod_27 :: x_mod_28 :: x_mod_29 :: x_mod_30 :: x_mod_31 :: x_mod_32 :: [])))) := by
  refine g_met_i (cc := cX7_count) (maxL := 2) (by decide) rfl (Nat.le_of_ble_eq_true rfl) ?_
  intro p e s m below meth c A hx hb hml hr hts hown hnm hlocks hE hP hD hS hA ls hl
  have hown : s.vm.findClass RX7 = some m.cls := hown
  have hl : lv_has ls 2 [(0, .ref a_mod), (1, .int (nI (0)))] := hl
  have in_RX7 := in_c0_X7_count_RX7
  refine lv_aload_n hx hb dX7_count_0 rfl (lv_at hl 0 rfl) ?_
  refine lv_iload_n hx hb dX7_count_1 rfl (lv_at hl 1 rfl) ?_
  refine lv_iconst (v := nI 0) hx hb dX7_count_2 (by decide) ?_
  refine lv_iconst (v := nI 4) hx hb dX7_count_3 (by decide) ?_
  refine gc_S_i (As := [.int (nI (0)), .int (nI (0)), .int (nI (4))]) (rest := [.ref a_mod]) (c_X7_in l) ⟨hx, hb, hml, hown, hts⟩ (va_cwS 3 hts gX7_count_X7_in rfl rfl rfl (by decide +kernel) ⟨Nat.le_of_ble_eq_true rfl, Nat.le_of_ble_eq_true rfl⟩) hE hP hD hS hA rfl rfl hl.1 (Nat.le_of_ble_eq_true rfl) dX7_count_4 ⟨Nat.le_of_ble_eq_true rfl, Nat.le_of_ble_eq_true rfl⟩ (fun r_4 u_4 H locs hP hD hS q_4 => ?_)
  subst q_4
  refine g_bif_eq (tgt := 14) hx hb dX7_count_7 (by decide) (fun c_7 => absurd c_7 (by decide)) (fun c_7 => ?_)
  refine lv_iconst (v := nI 0) hx hb dX7_count_10 (by decide) ?_
  refine lv_goto (tgt := 15) hx hb dX7_count_11 (by decide) ?_
  refine gv_set f0_mod rfl (by rfl) (fun k9 h9 kk9 => va_put (D := D) (ci := 8) (v := .int (nI (0))) (ty := .int) (C := RX7) (T := TX7) (N := 33) hx hb hts in_RX7 tyX7 tyX7_ok nmX7 hown hE.1 hP hD hS k9 h9 rfl 0 (by decide) (hts (.fieldLink RX7 94 "BasketryOfficeModel" "thrown" "I") (by decide +kernel)) (fun _ h9 => h9) rfl (by decide +kernel) rfl rfl (Nat.le_of_ble_eq_true rfl) dX7_count_15 kk9) (fun H locs hP hD hS => ?_)
  refine lv_aload_n hx hb dX7_count_18 rfl (lv_at hl 0 rfl) ?_
  have f_mod := g_eq (x := (a_mod, .inr (8, .int (nI (0)) :: .int (nI (n)) :: x_mod_2 :: x_mod_3 :: x_mod_4 :: .int (nI (nw)) :: .int (nI (qn)) :: .int (nI (fq)) :: x_mod_8 :: x_mod_9 :: x_mod_10 :: x_mod_11 :: x_mod_12 :: x_mod_13 :: x_mod_14 :: x_mod_15 :: x_mod_16 :: x_mod_17 :: x_mod_18 :: x_mod_19 :: x_mod_20 :: x_mod_21 :: x_mod_22 :: .int (nI (nc)) :: x_mod_24 :: x_mod_25 :: x_mod_26 :: x_mod_27 :: x_mod_28 :: x_mod_29 :: x_mod_30 :: x_mod_31 :: x_mod_32 :: []))) (f0_mod)
  refine va_get (D := D) (ci := 8) (v := .int (nI (0))) (C := RX7) (T := TX7) (N := 33) hx hb hts in_RX7 hown hE.1 (gv1 hP f_mod) 0 rfl rfl 0 (by decide) (hts (.fieldLink RX7 94 "BasketryOfficeModel" "thrown" "I") (by decide +kernel)) (fun _ h9 => h9) rfl dX7_count_19 ?_
  refine g_if_le (tgt := 27) hx hb (by omega) dX7_count_22 (by decide) (fun c_22 => ?_) (fun c_22 => absurd c_22 (by omega))
  refine lv_iload_n hx hb dX7_count_27 rfl (lv_at hl 1 rfl) ?_
  refine g_if_ne (tgt := 38) hx hb (by omega) dX7_count_28 (by decide) (fun c_28 => absurd c_28 (by omega)) (fun c_28 => ?_)
  refine lv_aload_n hx hb dX7_count_31 rfl (lv_at hl 0 rfl) ?_
  refine va_get (D := D) (ci := 8) (v := .int (nI (n))) (C := RX7) (T := TX7) (N := 33) hx hb hts in_RX7 hown hE.1 (gv1 hP f_mod) 0 rfl rfl 1 (by decide) (hts (.fieldLink RX7 98 "BasketryOfficeModel" "items" "I") (by decide +kernel)) (fun _ h9 => h9) rfl dX7_count_32 ?_
  refine lv_goto (tgt := 78) hx hb dX7_count_35 (by decide) ?_
  refine g_iret hx hb hr hlocks () dX7_count_78 hS hP hD ?_
  exact rfl

theorem in_c1_X7_count_RX7 : ∀ w ∈ wsX70, w ∈ wsX7_count := by decide +kernel
set_option maxHeartbeats 4000000 in
set_option maxRecDepth 100000 in
theorem c1_X7_count (l : Launch) {D : va_G} {y : Nat → Nat} {ws : va_W} {x_mod_2 : Value} {x_mod_3 : Value} {x_mod_4 : Value} {x_mod_8 : Value} {x_mod_9 : Value} {x_mod_10 : Value} {x_mod_11 : Value} {x_mod_12 : Value} {x_mod_13 : Value} {x_mod_14 : Value} {x_mod_15 : Value} {x_mod_16 : Value} {x_mod_17 : Value} {x_mod_18 : Value} {x_mod_19 : Value} {x_mod_20 : Value} {x_mod_21 : Value} {x_mod_22 : Value} {x_mod_24 : Value} {x_mod_25 : Value} {x_mod_26 : Value} {x_mod_27 : Value} {x_mod_28 : Value} {x_mod_29 : Value} {x_mod_30 : Value} {x_mod_31 : Value} {x_mod_32 : Value} {p_mod a_mod : Nat} {n nw qn nc fq th : Nat} (f0_mod : ws[p_mod]? = some (a_mod, .inr (8, .int (nI (th)) :: .int (nI (n)) :: x_mod_2 :: x_mod_3 :: x_mod_4 :: .int (nI (nw)) :: .int (nI (qn)) :: .int (nI (fq)) :: x_mod_8 :: x_mod_9 :: x_mod_10 :: x_mod_11 :: x_mod_12 :: x_mod_13 :: x_mod_14 :: x_mod_15 :: x_mod_16 :: x_mod_17 :: x_mod_18 :: x_mod_19 :: x_mod_20 :: x_mod_21 :: x_mod_22 :: .int (nI (nc)) :: x_mod_24 :: x_mod_25 :: x_mod_26 :: x_mod_27 :: x_mod_28 :: x_mod_29 :: x_mod_30 :: x_mod_31 :: x_mod_32 :: []))) : gMi l yX7_count wsX7_count ({ frames := 1, cells := 0, slots := 0, locals := 22 }) D y [.ref a_mod, .int (nI (1))] ws (fun r (_ : Unit) => r = nI nw) (fun (_ : Unit) => (ws.set p_mod (a_mod, .inr (8, .int (nI (0)) :: .int (nI (n)) :: x_mod_2 :: x_mod_3 :: x_mod_4 :: .int (nI (nw)) :: .int (nI (qn)) :: .int (nI (fq)) :: x_mod_8 :: x_mod_9 :: x_mod_10 :: x_mod_11 :: x_mod_12 :: x_mod_13 :: x_mod_14 :: x_mod_15 :: x_mod_16 :: x_mod_17 :: x_mod_18 :: x_mod_19 :: x_mod_20 :: x_mod_21 :: x_mod_22 :: .int (nI (nc)) :: x_mod_24 :: x_mod_25 :: x_mod_26 :: x_mod_27 :: x_mod_28 :: x_mod_29 :: x_mod_30 :: x_mod_31 :: x_mod_32 :: [])))) := by
  refine g_met_i (cc := cX7_count) (maxL := 2) (by decide) rfl (Nat.le_of_ble_eq_true rfl) ?_
  intro p e s m below meth c A hx hb hml hr hts hown hnm hlocks hE hP hD hS hA ls hl
  have hown : s.vm.findClass RX7 = some m.cls := hown
  have hl : lv_has ls 2 [(0, .ref a_mod), (1, .int (nI (1)))] := hl
  have in_RX7 := in_c1_X7_count_RX7
  refine lv_aload_n hx hb dX7_count_0 rfl (lv_at hl 0 rfl) ?_
  refine lv_iload_n hx hb dX7_count_1 rfl (lv_at hl 1 rfl) ?_
  refine lv_iconst (v := nI 0) hx hb dX7_count_2 (by decide) ?_
  refine lv_iconst (v := nI 4) hx hb dX7_count_3 (by decide) ?_
  refine gc_S_i (As := [.int (nI (1)), .int (nI (0)), .int (nI (4))]) (rest := [.ref a_mod]) (c_X7_in l) ⟨hx, hb, hml, hown, hts⟩ (va_cwS 3 hts gX7_count_X7_in rfl rfl rfl (by decide +kernel) ⟨Nat.le_of_ble_eq_true rfl, Nat.le_of_ble_eq_true rfl⟩) hE hP hD hS hA rfl rfl hl.1 (Nat.le_of_ble_eq_true rfl) dX7_count_4 ⟨Nat.le_of_ble_eq_true rfl, Nat.le_of_ble_eq_true rfl⟩ (fun r_4 u_4 H locs hP hD hS q_4 => ?_)
  subst q_4
  refine g_bif_eq (tgt := 14) hx hb dX7_count_7 (by decide) (fun c_7 => absurd c_7 (by decide)) (fun c_7 => ?_)
  refine lv_iconst (v := nI 0) hx hb dX7_count_10 (by decide) ?_
  refine lv_goto (tgt := 15) hx hb dX7_count_11 (by decide) ?_
  refine gv_set f0_mod rfl (by rfl) (fun k9 h9 kk9 => va_put (D := D) (ci := 8) (v := .int (nI (0))) (ty := .int) (C := RX7) (T := TX7) (N := 33) hx hb hts in_RX7 tyX7 tyX7_ok nmX7 hown hE.1 hP hD hS k9 h9 rfl 0 (by decide) (hts (.fieldLink RX7 94 "BasketryOfficeModel" "thrown" "I") (by decide +kernel)) (fun _ h9 => h9) rfl (by decide +kernel) rfl rfl (Nat.le_of_ble_eq_true rfl) dX7_count_15 kk9) (fun H locs hP hD hS => ?_)
  refine lv_aload_n hx hb dX7_count_18 rfl (lv_at hl 0 rfl) ?_
  have f_mod := g_eq (x := (a_mod, .inr (8, .int (nI (0)) :: .int (nI (n)) :: x_mod_2 :: x_mod_3 :: x_mod_4 :: .int (nI (nw)) :: .int (nI (qn)) :: .int (nI (fq)) :: x_mod_8 :: x_mod_9 :: x_mod_10 :: x_mod_11 :: x_mod_12 :: x_mod_13 :: x_mod_14 :: x_mod_15 :: x_mod_16 :: x_mod_17 :: x_mod_18 :: x_mod_19 :: x_mod_20 :: x_mod_21 :: x_mod_22 :: .int (nI (nc)) :: x_mod_24 :: x_mod_25 :: x_mod_26 :: x_mod_27 :: x_mod_28 :: x_mod_29 :: x_mod_30 :: x_mod_31 :: x_mod_32 :: []))) (f0_mod)
  refine va_get (D := D) (ci := 8) (v := .int (nI (0))) (C := RX7) (T := TX7) (N := 33) hx hb hts in_RX7 hown hE.1 (gv1 hP f_mod) 0 rfl rfl 0 (by decide) (hts (.fieldLink RX7 94 "BasketryOfficeModel" "thrown" "I") (by decide +kernel)) (fun _ h9 => h9) rfl dX7_count_19 ?_
  refine g_if_le (tgt := 27) hx hb (by omega) dX7_count_22 (by decide) (fun c_22 => ?_) (fun c_22 => absurd c_22 (by omega))
  refine lv_iload_n hx hb dX7_count_27 rfl (lv_at hl 1 rfl) ?_
  refine g_if_ne (tgt := 38) hx hb (by omega) dX7_count_28 (by decide) (fun c_28 => ?_) (fun c_28 => absurd c_28 (by omega))
  refine lv_iload_n hx hb dX7_count_38 rfl (lv_at hl 1 rfl) ?_
  refine lv_iconst (v := nI 1) hx hb dX7_count_39 (by decide) ?_
  refine g_icmp_ne (tgt := 50) hx hb (by omega) (by omega) dX7_count_40 (by decide) (fun c_40 => absurd c_40 (by omega)) (fun c_40 => ?_)
  refine lv_aload_n hx hb dX7_count_43 rfl (lv_at hl 0 rfl) ?_
  refine va_get (D := D) (ci := 8) (v := .int (nI (nw))) (C := RX7) (T := TX7) (N := 33) hx hb hts in_RX7 hown hE.1 (gv1 hP f_mod) 0 rfl rfl 5 (by decide) (hts (.fieldLink RX7 105 "BasketryOfficeModel" "now" "I") (by decide +kernel)) (fun _ h9 => h9) rfl dX7_count_44 ?_
  refine lv_goto (tgt := 78) hx hb dX7_count_47 (by decide) ?_
  refine g_iret hx hb hr hlocks () dX7_count_78 hS hP hD ?_
  exact rfl

theorem in_c2_X7_count_RX7 : ∀ w ∈ wsX70, w ∈ wsX7_count := by decide +kernel
set_option maxHeartbeats 4000000 in
set_option maxRecDepth 100000 in
theorem c2_X7_count (l : Launch) {D : va_G} {y : Nat → Nat} {ws : va_W} {x_mod_2 : Value} {x_mod_3 : Value} {x_mod_4 : Value} {x_mod_8 : Value} {x_mod_9 : Value} {x_mod_10 : Value} {x_mod_11 : Value} {x_mod_12 : Value} {x_mod_13 : Value} {x_mod_14 : Value} {x_mod_15 : Value} {x_mod_16 : Value} {x_mod_17 : Value} {x_mod_18 : Value} {x_mod_19 : Value} {x_mod_20 : Value} {x_mod_21 : Value} {x_mod_22 : Value} {x_mod_24 : Value} {x_mod_25 : Value} {x_mod_26 : Value} {x_mod_27 : Value} {x_mod_28 : Value} {x_mod_29 : Value} {x_mod_30 : Value} {x_mod_31 : Value} {x_mod_32 : Value} {p_mod a_mod : Nat} {n nw qn nc fq th : Nat} (f0_mod : ws[p_mod]? = some (a_mod, .inr (8, .int (nI (th)) :: .int (nI (n)) :: x_mod_2 :: x_mod_3 :: x_mod_4 :: .int (nI (nw)) :: .int (nI (qn)) :: .int (nI (fq)) :: x_mod_8 :: x_mod_9 :: x_mod_10 :: x_mod_11 :: x_mod_12 :: x_mod_13 :: x_mod_14 :: x_mod_15 :: x_mod_16 :: x_mod_17 :: x_mod_18 :: x_mod_19 :: x_mod_20 :: x_mod_21 :: x_mod_22 :: .int (nI (nc)) :: x_mod_24 :: x_mod_25 :: x_mod_26 :: x_mod_27 :: x_mod_28 :: x_mod_29 :: x_mod_30 :: x_mod_31 :: x_mod_32 :: []))) : gMi l yX7_count wsX7_count ({ frames := 1, cells := 0, slots := 0, locals := 22 }) D y [.ref a_mod, .int (nI (2))] ws (fun r (_ : Unit) => r = nI qn) (fun (_ : Unit) => (ws.set p_mod (a_mod, .inr (8, .int (nI (0)) :: .int (nI (n)) :: x_mod_2 :: x_mod_3 :: x_mod_4 :: .int (nI (nw)) :: .int (nI (qn)) :: .int (nI (fq)) :: x_mod_8 :: x_mod_9 :: x_mod_10 :: x_mod_11 :: x_mod_12 :: x_mod_13 :: x_mod_14 :: x_mod_15 :: x_mod_16 :: x_mod_17 :: x_mod_18 :: x_mod_19 :: x_mod_20 :: x_mod_21 :: x_mod_22 :: .int (nI (nc)) :: x_mod_24 :: x_mod_25 :: x_mod_26 :: x_mod_27 :: x_mod_28 :: x_mod_29 :: x_mod_30 :: x_mod_31 :: x_mod_32 :: [])))) := by
  refine g_met_i (cc := cX7_count) (maxL := 2) (by decide) rfl (Nat.le_of_ble_eq_true rfl) ?_
  intro p e s m below meth c A hx hb hml hr hts hown hnm hlocks hE hP hD hS hA ls hl
  have hown : s.vm.findClass RX7 = some m.cls := hown
  have hl : lv_has ls 2 [(0, .ref a_mod), (1, .int (nI (2)))] := hl
  have in_RX7 := in_c2_X7_count_RX7
  refine lv_aload_n hx hb dX7_count_0 rfl (lv_at hl 0 rfl) ?_
  refine lv_iload_n hx hb dX7_count_1 rfl (lv_at hl 1 rfl) ?_
  refine lv_iconst (v := nI 0) hx hb dX7_count_2 (by decide) ?_
  refine lv_iconst (v := nI 4) hx hb dX7_count_3 (by decide) ?_
  refine gc_S_i (As := [.int (nI (2)), .int (nI (0)), .int (nI (4))]) (rest := [.ref a_mod]) (c_X7_in l) ⟨hx, hb, hml, hown, hts⟩ (va_cwS 3 hts gX7_count_X7_in rfl rfl rfl (by decide +kernel) ⟨Nat.le_of_ble_eq_true rfl, Nat.le_of_ble_eq_true rfl⟩) hE hP hD hS hA rfl rfl hl.1 (Nat.le_of_ble_eq_true rfl) dX7_count_4 ⟨Nat.le_of_ble_eq_true rfl, Nat.le_of_ble_eq_true rfl⟩ (fun r_4 u_4 H locs hP hD hS q_4 => ?_)
  subst q_4
  refine g_bif_eq (tgt := 14) hx hb dX7_count_7 (by decide) (fun c_7 => absurd c_7 (by decide)) (fun c_7 => ?_)
  refine lv_iconst (v := nI 0) hx hb dX7_count_10 (by decide) ?_
  refine lv_goto (tgt := 15) hx hb dX7_count_11 (by decide) ?_
  refine gv_set f0_mod rfl (by rfl) (fun k9 h9 kk9 => va_put (D := D) (ci := 8) (v := .int (nI (0))) (ty := .int) (C := RX7) (T := TX7) (N := 33) hx hb hts in_RX7 tyX7 tyX7_ok nmX7 hown hE.1 hP hD hS k9 h9 rfl 0 (by decide) (hts (.fieldLink RX7 94 "BasketryOfficeModel" "thrown" "I") (by decide +kernel)) (fun _ h9 => h9) rfl (by decide +kernel) rfl rfl (Nat.le_of_ble_eq_true rfl) dX7_count_15 kk9) (fun H locs hP hD hS => ?_)
  refine lv_aload_n hx hb dX7_count_18 rfl (lv_at hl 0 rfl) ?_
  have f_mod := g_eq (x := (a_mod, .inr (8, .int (nI (0)) :: .int (nI (n)) :: x_mod_2 :: x_mod_3 :: x_mod_4 :: .int (nI (nw)) :: .int (nI (qn)) :: .int (nI (fq)) :: x_mod_8 :: x_mod_9 :: x_mod_10 :: x_mod_11 :: x_mod_12 :: x_mod_13 :: x_mod_14 :: x_mod_15 :: x_mod_16 :: x_mod_17 :: x_mod_18 :: x_mod_19 :: x_mod_20 :: x_mod_21 :: x_mod_22 :: .int (nI (nc)) :: x_mod_24 :: x_mod_25 :: x_mod_26 :: x_mod_27 :: x_mod_28 :: x_mod_29 :: x_mod_30 :: x_mod_31 :: x_mod_32 :: []))) (f0_mod)
  refine va_get (D := D) (ci := 8) (v := .int (nI (0))) (C := RX7) (T := TX7) (N := 33) hx hb hts in_RX7 hown hE.1 (gv1 hP f_mod) 0 rfl rfl 0 (by decide) (hts (.fieldLink RX7 94 "BasketryOfficeModel" "thrown" "I") (by decide +kernel)) (fun _ h9 => h9) rfl dX7_count_19 ?_
  refine g_if_le (tgt := 27) hx hb (by omega) dX7_count_22 (by decide) (fun c_22 => ?_) (fun c_22 => absurd c_22 (by omega))
  refine lv_iload_n hx hb dX7_count_27 rfl (lv_at hl 1 rfl) ?_
  refine g_if_ne (tgt := 38) hx hb (by omega) dX7_count_28 (by decide) (fun c_28 => ?_) (fun c_28 => absurd c_28 (by omega))
  refine lv_iload_n hx hb dX7_count_38 rfl (lv_at hl 1 rfl) ?_
  refine lv_iconst (v := nI 1) hx hb dX7_count_39 (by decide) ?_
  refine g_icmp_ne (tgt := 50) hx hb (by omega) (by omega) dX7_count_40 (by decide) (fun c_40 => ?_) (fun c_40 => absurd c_40 (by omega))
  refine lv_iload_n hx hb dX7_count_50 rfl (lv_at hl 1 rfl) ?_
  refine lv_iconst (v := nI 2) hx hb dX7_count_51 (by decide) ?_
  refine g_icmp_ne (tgt := 62) hx hb (by omega) (by omega) dX7_count_52 (by decide) (fun c_52 => absurd c_52 (by omega)) (fun c_52 => ?_)
  refine lv_aload_n hx hb dX7_count_55 rfl (lv_at hl 0 rfl) ?_
  refine va_get (D := D) (ci := 8) (v := .int (nI (qn))) (C := RX7) (T := TX7) (N := 33) hx hb hts in_RX7 hown hE.1 (gv1 hP f_mod) 0 rfl rfl 6 (by decide) (hts (.fieldLink RX7 123 "BasketryOfficeModel" "quotes" "I") (by decide +kernel)) (fun _ h9 => h9) rfl dX7_count_56 ?_
  refine lv_goto (tgt := 78) hx hb dX7_count_59 (by decide) ?_
  refine g_iret hx hb hr hlocks () dX7_count_78 hS hP hD ?_
  exact rfl

theorem in_c3_X7_count_RX7 : ∀ w ∈ wsX70, w ∈ wsX7_count := by decide +kernel
set_option maxHeartbeats 4000000 in
set_option maxRecDepth 100000 in
theorem c3_X7_count (l : Launch) {D : va_G} {y : Nat → Nat} {ws : va_W} {x_mod_2 : Value} {x_mod_3 : Value} {x_mod_4 : Value} {x_mod_8 : Value} {x_mod_9 : Value} {x_mod_10 : Value} {x_mod_11 : Value} {x_mod_12 : Value} {x_mod_13 : Value} {x_mod_14 : Value} {x_mod_15 : Value} {x_mod_16 : Value} {x_mod_17 : Value} {x_mod_18 : Value} {x_mod_19 : Value} {x_mod_20 : Value} {x_mod_21 : Value} {x_mod_22 : Value} {x_mod_24 : Value} {x_mod_25 : Value} {x_mod_26 : Value} {x_mod_27 : Value} {x_mod_28 : Value} {x_mod_29 : Value} {x_mod_30 : Value} {x_mod_31 : Value} {x_mod_32 : Value} {p_mod a_mod : Nat} {n nw qn nc fq th : Nat} (f0_mod : ws[p_mod]? = some (a_mod, .inr (8, .int (nI (th)) :: .int (nI (n)) :: x_mod_2 :: x_mod_3 :: x_mod_4 :: .int (nI (nw)) :: .int (nI (qn)) :: .int (nI (fq)) :: x_mod_8 :: x_mod_9 :: x_mod_10 :: x_mod_11 :: x_mod_12 :: x_mod_13 :: x_mod_14 :: x_mod_15 :: x_mod_16 :: x_mod_17 :: x_mod_18 :: x_mod_19 :: x_mod_20 :: x_mod_21 :: x_mod_22 :: .int (nI (nc)) :: x_mod_24 :: x_mod_25 :: x_mod_26 :: x_mod_27 :: x_mod_28 :: x_mod_29 :: x_mod_30 :: x_mod_31 :: x_mod_32 :: []))) : gMi l yX7_count wsX7_count ({ frames := 1, cells := 0, slots := 0, locals := 22 }) D y [.ref a_mod, .int (nI (3))] ws (fun r (_ : Unit) => r = nI nc) (fun (_ : Unit) => (ws.set p_mod (a_mod, .inr (8, .int (nI (0)) :: .int (nI (n)) :: x_mod_2 :: x_mod_3 :: x_mod_4 :: .int (nI (nw)) :: .int (nI (qn)) :: .int (nI (fq)) :: x_mod_8 :: x_mod_9 :: x_mod_10 :: x_mod_11 :: x_mod_12 :: x_mod_13 :: x_mod_14 :: x_mod_15 :: x_mod_16 :: x_mod_17 :: x_mod_18 :: x_mod_19 :: x_mod_20 :: x_mod_21 :: x_mod_22 :: .int (nI (nc)) :: x_mod_24 :: x_mod_25 :: x_mod_26 :: x_mod_27 :: x_mod_28 :: x_mod_29 :: x_mod_30 :: x_mod_31 :: x_mod_32 :: [])))) := by
  refine g_met_i (cc := cX7_count) (maxL := 2) (by decide) rfl (Nat.le_of_ble_eq_true rfl) ?_
  intro p e s m below meth c A hx hb hml hr hts hown hnm hlocks hE hP hD hS hA ls hl
  have hown : s.vm.findClass RX7 = some m.cls := hown
  have hl : lv_has ls 2 [(0, .ref a_mod), (1, .int (nI (3)))] := hl
  have in_RX7 := in_c3_X7_count_RX7
  refine lv_aload_n hx hb dX7_count_0 rfl (lv_at hl 0 rfl) ?_
  refine lv_iload_n hx hb dX7_count_1 rfl (lv_at hl 1 rfl) ?_
  refine lv_iconst (v := nI 0) hx hb dX7_count_2 (by decide) ?_
  refine lv_iconst (v := nI 4) hx hb dX7_count_3 (by decide) ?_
  refine gc_S_i (As := [.int (nI (3)), .int (nI (0)), .int (nI (4))]) (rest := [.ref a_mod]) (c_X7_in l) ⟨hx, hb, hml, hown, hts⟩ (va_cwS 3 hts gX7_count_X7_in rfl rfl rfl (by decide +kernel) ⟨Nat.le_of_ble_eq_true rfl, Nat.le_of_ble_eq_true rfl⟩) hE hP hD hS hA rfl rfl hl.1 (Nat.le_of_ble_eq_true rfl) dX7_count_4 ⟨Nat.le_of_ble_eq_true rfl, Nat.le_of_ble_eq_true rfl⟩ (fun r_4 u_4 H locs hP hD hS q_4 => ?_)
  subst q_4
  refine g_bif_eq (tgt := 14) hx hb dX7_count_7 (by decide) (fun c_7 => absurd c_7 (by decide)) (fun c_7 => ?_)
  refine lv_iconst (v := nI 0) hx hb dX7_count_10 (by decide) ?_
  refine lv_goto (tgt := 15) hx hb dX7_count_11 (by decide) ?_
  refine gv_set f0_mod rfl (by rfl) (fun k9 h9 kk9 => va_put (D := D) (ci := 8) (v := .int (nI (0))) (ty := .int) (C := RX7) (T := TX7) (N := 33) hx hb hts in_RX7 tyX7 tyX7_ok nmX7 hown hE.1 hP hD hS k9 h9 rfl 0 (by decide) (hts (.fieldLink RX7 94 "BasketryOfficeModel" "thrown" "I") (by decide +kernel)) (fun _ h9 => h9) rfl (by decide +kernel) rfl rfl (Nat.le_of_ble_eq_true rfl) dX7_count_15 kk9) (fun H locs hP hD hS => ?_)
  refine lv_aload_n hx hb dX7_count_18 rfl (lv_at hl 0 rfl) ?_
  have f_mod := g_eq (x := (a_mod, .inr (8, .int (nI (0)) :: .int (nI (n)) :: x_mod_2 :: x_mod_3 :: x_mod_4 :: .int (nI (nw)) :: .int (nI (qn)) :: .int (nI (fq)) :: x_mod_8 :: x_mod_9 :: x_mod_10 :: x_mod_11 :: x_mod_12 :: x_mod_13 :: x_mod_14 :: x_mod_15 :: x_mod_16 :: x_mod_17 :: x_mod_18 :: x_mod_19 :: x_mod_20 :: x_mod_21 :: x_mod_22 :: .int (nI (nc)) :: x_mod_24 :: x_mod_25 :: x_mod_26 :: x_mod_27 :: x_mod_28 :: x_mod_29 :: x_mod_30 :: x_mod_31 :: x_mod_32 :: []))) (f0_mod)
  refine va_get (D := D) (ci := 8) (v := .int (nI (0))) (C := RX7) (T := TX7) (N := 33) hx hb hts in_RX7 hown hE.1 (gv1 hP f_mod) 0 rfl rfl 0 (by decide) (hts (.fieldLink RX7 94 "BasketryOfficeModel" "thrown" "I") (by decide +kernel)) (fun _ h9 => h9) rfl dX7_count_19 ?_
  refine g_if_le (tgt := 27) hx hb (by omega) dX7_count_22 (by decide) (fun c_22 => ?_) (fun c_22 => absurd c_22 (by omega))
  refine lv_iload_n hx hb dX7_count_27 rfl (lv_at hl 1 rfl) ?_
  refine g_if_ne (tgt := 38) hx hb (by omega) dX7_count_28 (by decide) (fun c_28 => ?_) (fun c_28 => absurd c_28 (by omega))
  refine lv_iload_n hx hb dX7_count_38 rfl (lv_at hl 1 rfl) ?_
  refine lv_iconst (v := nI 1) hx hb dX7_count_39 (by decide) ?_
  refine g_icmp_ne (tgt := 50) hx hb (by omega) (by omega) dX7_count_40 (by decide) (fun c_40 => ?_) (fun c_40 => absurd c_40 (by omega))
  refine lv_iload_n hx hb dX7_count_50 rfl (lv_at hl 1 rfl) ?_
  refine lv_iconst (v := nI 2) hx hb dX7_count_51 (by decide) ?_
  refine g_icmp_ne (tgt := 62) hx hb (by omega) (by omega) dX7_count_52 (by decide) (fun c_52 => ?_) (fun c_52 => absurd c_52 (by omega))
  refine lv_iload_n hx hb dX7_count_62 rfl (lv_at hl 1 rfl) ?_
  refine lv_iconst (v := nI 3) hx hb dX7_count_63 (by decide) ?_
  refine g_icmp_ne (tgt := 74) hx hb (by omega) (by omega) dX7_count_64 (by decide) (fun c_64 => absurd c_64 (by omega)) (fun c_64 => ?_)
  refine lv_aload_n hx hb dX7_count_67 rfl (lv_at hl 0 rfl) ?_
  refine va_get (D := D) (ci := 8) (v := .int (nI (nc))) (C := RX7) (T := TX7) (N := 33) hx hb hts in_RX7 hown hE.1 (gv1 hP f_mod) 0 rfl rfl 23 (by decide) (hts (.fieldLink RX7 174 "BasketryOfficeModel" "contracts" "I") (by decide +kernel)) (fun _ h9 => h9) rfl dX7_count_68 ?_
  refine lv_goto (tgt := 78) hx hb dX7_count_71 (by decide) ?_
  refine g_iret hx hb hr hlocks () dX7_count_78 hS hP hD ?_
  exact rfl

theorem in_c4_X7_count_RX7 : ∀ w ∈ wsX70, w ∈ wsX7_count := by decide +kernel
set_option maxHeartbeats 4000000 in
set_option maxRecDepth 100000 in
theorem c4_X7_count (l : Launch) {D : va_G} {y : Nat → Nat} {ws : va_W} {x_mod_2 : Value} {x_mod_3 : Value} {x_mod_4 : Value} {x_mod_8 : Value} {x_mod_9 : Value} {x_mod_10 : Value} {x_mod_11 : Value} {x_mod_12 : Value} {x_mod_13 : Value} {x_mod_14 : Value} {x_mod_15 : Value} {x_mod_16 : Value} {x_mod_17 : Value} {x_mod_18 : Value} {x_mod_19 : Value} {x_mod_20 : Value} {x_mod_21 : Value} {x_mod_22 : Value} {x_mod_24 : Value} {x_mod_25 : Value} {x_mod_26 : Value} {x_mod_27 : Value} {x_mod_28 : Value} {x_mod_29 : Value} {x_mod_30 : Value} {x_mod_31 : Value} {x_mod_32 : Value} {p_mod a_mod : Nat} {n nw qn nc fq th : Nat} (f0_mod : ws[p_mod]? = some (a_mod, .inr (8, .int (nI (th)) :: .int (nI (n)) :: x_mod_2 :: x_mod_3 :: x_mod_4 :: .int (nI (nw)) :: .int (nI (qn)) :: .int (nI (fq)) :: x_mod_8 :: x_mod_9 :: x_mod_10 :: x_mod_11 :: x_mod_12 :: x_mod_13 :: x_mod_14 :: x_mod_15 :: x_mod_16 :: x_mod_17 :: x_mod_18 :: x_mod_19 :: x_mod_20 :: x_mod_21 :: x_mod_22 :: .int (nI (nc)) :: x_mod_24 :: x_mod_25 :: x_mod_26 :: x_mod_27 :: x_mod_28 :: x_mod_29 :: x_mod_30 :: x_mod_31 :: x_mod_32 :: []))) : gMi l yX7_count wsX7_count ({ frames := 1, cells := 0, slots := 0, locals := 22 }) D y [.ref a_mod, .int (nI (4))] ws (fun r (_ : Unit) => r = nI fq) (fun (_ : Unit) => (ws.set p_mod (a_mod, .inr (8, .int (nI (0)) :: .int (nI (n)) :: x_mod_2 :: x_mod_3 :: x_mod_4 :: .int (nI (nw)) :: .int (nI (qn)) :: .int (nI (fq)) :: x_mod_8 :: x_mod_9 :: x_mod_10 :: x_mod_11 :: x_mod_12 :: x_mod_13 :: x_mod_14 :: x_mod_15 :: x_mod_16 :: x_mod_17 :: x_mod_18 :: x_mod_19 :: x_mod_20 :: x_mod_21 :: x_mod_22 :: .int (nI (nc)) :: x_mod_24 :: x_mod_25 :: x_mod_26 :: x_mod_27 :: x_mod_28 :: x_mod_29 :: x_mod_30 :: x_mod_31 :: x_mod_32 :: [])))) := by
  refine g_met_i (cc := cX7_count) (maxL := 2) (by decide) rfl (Nat.le_of_ble_eq_true rfl) ?_
  intro p e s m below meth c A hx hb hml hr hts hown hnm hlocks hE hP hD hS hA ls hl
  have hown : s.vm.findClass RX7 = some m.cls := hown
  have hl : lv_has ls 2 [(0, .ref a_mod), (1, .int (nI (4)))] := hl
  have in_RX7 := in_c4_X7_count_RX7
  refine lv_aload_n hx hb dX7_count_0 rfl (lv_at hl 0 rfl) ?_
  refine lv_iload_n hx hb dX7_count_1 rfl (lv_at hl 1 rfl) ?_
  refine lv_iconst (v := nI 0) hx hb dX7_count_2 (by decide) ?_
  refine lv_iconst (v := nI 4) hx hb dX7_count_3 (by decide) ?_
  refine gc_S_i (As := [.int (nI (4)), .int (nI (0)), .int (nI (4))]) (rest := [.ref a_mod]) (c_X7_in l) ⟨hx, hb, hml, hown, hts⟩ (va_cwS 3 hts gX7_count_X7_in rfl rfl rfl (by decide +kernel) ⟨Nat.le_of_ble_eq_true rfl, Nat.le_of_ble_eq_true rfl⟩) hE hP hD hS hA rfl rfl hl.1 (Nat.le_of_ble_eq_true rfl) dX7_count_4 ⟨Nat.le_of_ble_eq_true rfl, Nat.le_of_ble_eq_true rfl⟩ (fun r_4 u_4 H locs hP hD hS q_4 => ?_)
  subst q_4
  refine g_bif_eq (tgt := 14) hx hb dX7_count_7 (by decide) (fun c_7 => absurd c_7 (by decide)) (fun c_7 => ?_)
  refine lv_iconst (v := nI 0) hx hb dX7_count_10 (by decide) ?_
  refine lv_goto (tgt := 15) hx hb dX7_count_11 (by decide) ?_
  refine gv_set f0_mod rfl (by rfl) (fun k9 h9 kk9 => va_put (D := D) (ci := 8) (v := .int (nI (0))) (ty := .int) (C := RX7) (T := TX7) (N := 33) hx hb hts in_RX7 tyX7 tyX7_ok nmX7 hown hE.1 hP hD hS k9 h9 rfl 0 (by decide) (hts (.fieldLink RX7 94 "BasketryOfficeModel" "thrown" "I") (by decide +kernel)) (fun _ h9 => h9) rfl (by decide +kernel) rfl rfl (Nat.le_of_ble_eq_true rfl) dX7_count_15 kk9) (fun H locs hP hD hS => ?_)
  refine lv_aload_n hx hb dX7_count_18 rfl (lv_at hl 0 rfl) ?_
  have f_mod := g_eq (x := (a_mod, .inr (8, .int (nI (0)) :: .int (nI (n)) :: x_mod_2 :: x_mod_3 :: x_mod_4 :: .int (nI (nw)) :: .int (nI (qn)) :: .int (nI (fq)) :: x_mod_8 :: x_mod_9 :: x_mod_10 :: x_mod_11 :: x_mod_12 :: x_mod_13 :: x_mod_14 :: x_mod_15 :: x_mod_16 :: x_mod_17 :: x_mod_18 :: x_mod_19 :: x_mod_20 :: x_mod_21 :: x_mod_22 :: .int (nI (nc)) :: x_mod_24 :: x_mod_25 :: x_mod_26 :: x_mod_27 :: x_mod_28 :: x_mod_29 :: x_mod_30 :: x_mod_31 :: x_mod_32 :: []))) (f0_mod)
  refine va_get (D := D) (ci := 8) (v := .int (nI (0))) (C := RX7) (T := TX7) (N := 33) hx hb hts in_RX7 hown hE.1 (gv1 hP f_mod) 0 rfl rfl 0 (by decide) (hts (.fieldLink RX7 94 "BasketryOfficeModel" "thrown" "I") (by decide +kernel)) (fun _ h9 => h9) rfl dX7_count_19 ?_
  refine g_if_le (tgt := 27) hx hb (by omega) dX7_count_22 (by decide) (fun c_22 => ?_) (fun c_22 => absurd c_22 (by omega))
  refine lv_iload_n hx hb dX7_count_27 rfl (lv_at hl 1 rfl) ?_
  refine g_if_ne (tgt := 38) hx hb (by omega) dX7_count_28 (by decide) (fun c_28 => ?_) (fun c_28 => absurd c_28 (by omega))
  refine lv_iload_n hx hb dX7_count_38 rfl (lv_at hl 1 rfl) ?_
  refine lv_iconst (v := nI 1) hx hb dX7_count_39 (by decide) ?_
  refine g_icmp_ne (tgt := 50) hx hb (by omega) (by omega) dX7_count_40 (by decide) (fun c_40 => ?_) (fun c_40 => absurd c_40 (by omega))
  refine lv_iload_n hx hb dX7_count_50 rfl (lv_at hl 1 rfl) ?_
  refine lv_iconst (v := nI 2) hx hb dX7_count_51 (by decide) ?_
  refine g_icmp_ne (tgt := 62) hx hb (by omega) (by omega) dX7_count_52 (by decide) (fun c_52 => ?_) (fun c_52 => absurd c_52 (by omega))
  refine lv_iload_n hx hb dX7_count_62 rfl (lv_at hl 1 rfl) ?_
  refine lv_iconst (v := nI 3) hx hb dX7_count_63 (by decide) ?_
  refine g_icmp_ne (tgt := 74) hx hb (by omega) (by omega) dX7_count_64 (by decide) (fun c_64 => ?_) (fun c_64 => absurd c_64 (by omega))
  refine lv_aload_n hx hb dX7_count_74 rfl (lv_at hl 0 rfl) ?_
  refine va_get (D := D) (ci := 8) (v := .int (nI (fq))) (C := RX7) (T := TX7) (N := 33) hx hb hts in_RX7 hown hE.1 (gv1 hP f_mod) 0 rfl rfl 7 (by decide) (hts (.fieldLink RX7 188 "BasketryOfficeModel" "fixes" "I") (by decide +kernel)) (fun _ h9 => h9) rfl dX7_count_75 ?_
  refine g_iret hx hb hr hlocks () dX7_count_78 hS hP hD ?_
  exact rfl
