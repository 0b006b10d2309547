theorem nI_neg {n : Nat} (h : n < 2 ^ 31) : ¬ nI n = -1 := by
  intro z
  have h1 := congrArg Int32.toInt z
  rw [nI_toInt h] at h1
  have h2 : (-1 : Int32).toInt = -1 := by decide
  omega
/-- nothing is drawn where 0.0 is put to a sum, and it stays -/
def nnCoreZ (gr : Nat → UInt64) (t : Nat) : Prop := ∀ gt ls j, j < 4 → vf_n64 (FP.dadd (smF gr t gt ls j) 0) ∧ FP.dadd (smF gr t gt ls j) 0 = smF gr t gt ls j
theorem mBase_s0 {lc lg : Nat → Nat} {pr : Nat → UInt64} {t i o : Nat} (hi : i < 12) (ho : o < 4) (hlg : ∀ k, lg k = 0 → lc k = 0) : mBase lc lg pr t i o 0 = sBase lc lg pr (48 * t + 4 * i + o) := by
  rw [mBase_s hi ho hlg]
  exact congrArg (fun f => sBase lc lg f (48 * t + 4 * i + o)) (funext fun k => congrArg pr (by omega))
theorem in_x0_X7_core_RX7 : ∀ w ∈ wsX70, w ∈ wsX7_core := by decide +kernel
set_option maxHeartbeats 4000000 in
set_option maxRecDepth 100000 in
theorem x0_X7_core (l : Launch) {D : va_G} {y : Nat → Nat} {ws : va_W} {x_mod_2 : Value} {x_mod_3 : Value} {x_mod_4 : Value} {x_mod_6 : Value} {x_mod_7 : Value} {x_mod_8 : Value} {x_mod_9 : Value} {x_mod_10 : Value} {x_mod_11 : Value} {x_mod_12 : Value} {x_mod_13 : Value} {x_mod_14 : Value} {x_mod_15 : Value} {x_mod_16 : Value} {x_mod_17 : Value} {x_mod_18 : Value} {x_mod_19 : Value} {x_mod_20 : Value} {x_mod_21 : Value} {x_mod_22 : Value} {x_mod_23 : Value} {x_mod_24 : Value} {x_mod_25 : Value} {x_mod_26 : Value} {x_mod_27 : Value} {x_mod_28 : Value} {x_mod_29 : Value} {x_mod_30 : Value} {x_mod_31 : Value} {x_mod_32 : Value} {p_mod a_mod : Nat} {t : Int32} {nw n th : Nat} (f0_mod : ws[p_mod]? = some (a_mod, .inr (8, .int (nI (th)) :: .int (nI (n)) :: x_mod_2 :: x_mod_3 :: x_mod_4 :: .int (nI (nw)) :: x_mod_6 :: x_mod_7 :: x_mod_8 :: x_mod_9 :: x_mod_10 :: x_mod_11 :: x_mod_12 :: x_mod_13 :: x_mod_14 :: x_mod_15 :: x_mod_16 :: x_mod_17 :: x_mod_18 :: x_mod_19 :: x_mod_20 :: x_mod_21 :: x_mod_22 :: x_mod_23 :: x_mod_24 :: x_mod_25 :: x_mod_26 :: x_mod_27 :: x_mod_28 :: x_mod_29 :: x_mod_30 :: x_mod_31 :: x_mod_32 :: []))) (hw : nw ≤ 24) (hn : n ≤ 12)  (hbad : t < 0 ∨ nI nw ≤ t) : gMd l yX7_core wsX7_core ({ frames := 2, cells := 0, slots := 0, locals := 43 }) D y [.ref a_mod, .int (t)] ws (fun r (_ : Unit) => r = 0) (fun (_ : Unit) => (ws.set p_mod (a_mod, .inr (8, .int (nI (1)) :: .int (nI (n)) :: x_mod_2 :: x_mod_3 :: x_mod_4 :: .int (nI (nw)) :: x_mod_6 :: x_mod_7 :: x_mod_8 :: x_mod_9 :: x_mod_10 :: x_mod_11 :: x_mod_12 :: x_mod_13 :: x_mod_14 :: x_mod_15 :: x_mod_16 :: x_mod_17 :: x_mod_18 :: x_mod_19 :: x_mod_20 :: x_mod_21 :: x_mod_22 :: x_mod_23 :: x_mod_24 :: x_mod_25 :: x_mod_26 :: x_mod_27 :: x_mod_28 :: x_mod_29 :: x_mod_30 :: x_mod_31 :: x_mod_32 :: [])))) := by
  refine g_met_d (cc := cX7_core) (maxL := 7) (by decide) rfl (Nat.le_of_ble_eq_true rfl) ?_
  intro p e s m below meth c A hx hb hml hr hts hown hnm hlocks hE hP hD hS hA ls hl
  have hown : s.vm.findClass RX7 = some m.cls := hown
  have hl : lv_has ls 7 [(0, .ref a_mod), (1, .int (t))] := hl
  have in_RX7 := in_x0_X7_core_RX7
  refine lv_aload_n hx hb dX7_core_0 rfl (lv_at hl 0 rfl) ?_
  refine lv_aload_n hx hb dX7_core_1 rfl (lv_at hl 0 rfl) ?_
  refine lv_iload_n hx hb dX7_core_2 rfl (lv_at hl 1 rfl) ?_
  refine gc_V_i (As := [.int (t)]) (rest := [.ref a_mod]) (c_X7_isPublished l f0_mod (by omega)) ⟨hx, hb, hml, hown, hts⟩ (cwV 1 hts gX7_core_X7_isPublished rfl rfl rfl (by decide +kernel) ⟨Nat.le_of_ble_eq_true rfl, Nat.le_of_ble_eq_true rfl⟩) hE hP hD hS hA _ f0_mod rfl rfl rfl rfl hl.1 (Nat.le_of_ble_eq_true rfl) dX7_core_3 ⟨Nat.le_of_ble_eq_true rfl, Nat.le_of_ble_eq_true rfl⟩ (fun r_3 u_3 H locs hP hD hS q_3 => ?_)
  subst q_3
  refine g_bif_eq (tgt := 13) hx hb dX7_core_6 (by decide) (fun c_6 => ?_) (fun c_6 => absurd c_6 (by rw [decide_eq_false (fun z => z hbad)]; decide))
  refine lv_iconst (v := nI 1) hx hb dX7_core_13 (by decide) ?_
  refine gv_set f0_mod rfl (by rfl) (fun k9 h9 kk9 => va_put (D := D) (ci := 8) (v := .int (nI (1))) (ty := .int) (C := RX7) (T := TX7) (N := 33) hx hb hts in_RX7 tyX7 tyX7_ok nmX7 hown hE.1 hP hD hS k9 h9 rfl 0 (by decide) (hts (.fieldLink RX7 94 "BasketryOfficeModel" "thrown" "I") (by decide +kernel)) (fun _ h9 => h9) rfl (by decide +kernel) rfl rfl (Nat.le_of_ble_eq_true rfl) dX7_core_14 kk9) (fun H locs hP hD hS => ?_)
  refine lv_aload_n hx hb dX7_core_17 rfl (lv_at hl 0 rfl) ?_
  have f_mod := g_eq (x := (a_mod, .inr (8, .int (nI (1)) :: .int (nI (n)) :: x_mod_2 :: x_mod_3 :: x_mod_4 :: .int (nI (nw)) :: x_mod_6 :: x_mod_7 :: x_mod_8 :: x_mod_9 :: x_mod_10 :: x_mod_11 :: x_mod_12 :: x_mod_13 :: x_mod_14 :: x_mod_15 :: x_mod_16 :: x_mod_17 :: x_mod_18 :: x_mod_19 :: x_mod_20 :: x_mod_21 :: x_mod_22 :: x_mod_23 :: x_mod_24 :: x_mod_25 :: x_mod_26 :: x_mod_27 :: x_mod_28 :: x_mod_29 :: x_mod_30 :: x_mod_31 :: x_mod_32 :: []))) (f0_mod)
  refine va_get (D := D) (ci := 8) (v := .int (nI (1))) (C := RX7) (T := TX7) (N := 33) hx hb hts in_RX7 hown hE.1 (gv1 hP f_mod) 0 rfl rfl 0 (by decide) (hts (.fieldLink RX7 94 "BasketryOfficeModel" "thrown" "I") (by decide +kernel)) (fun _ h9 => h9) rfl dX7_core_18 ?_
  refine g_if_le (tgt := 26) hx hb (by omega) dX7_core_21 (by decide) (fun c_21 => absurd c_21 (by omega)) (fun c_21 => ?_)
  refine g_dconst0 hx hb dX7_core_24 ?_
  refine g_dret hx hb hr hlocks () dX7_core_25 hS hP hD ?_
  exact rfl

theorem in_c_X7_core_RX7 : ∀ w ∈ wsX70, w ∈ wsX7_core := by decide +kernel
set_option maxHeartbeats 4000000 in
set_option maxRecDepth 100000 in
theorem c_X7_core (l : Launch) {D : va_G} {y : Nat → Nat} {ws : va_W} {x_mod_2 : Value} {x_mod_3 : Value} {x_mod_4 : Value} {x_mod_6 : Value} {x_mod_7 : Value} {x_mod_8 : Value} {x_mod_9 : Value} {x_mod_10 : Value} {x_mod_11 : Value} {x_mod_12 : Value} {x_mod_13 : Value} {x_mod_14 : Value} {x_mod_15 : Value} {x_mod_16 : Value} {x_mod_17 : Value} {x_mod_18 : Value} {x_mod_19 : Value} {x_mod_21 : Value} {x_mod_22 : Value} {x_mod_23 : Value} {x_mod_24 : Value} {x_mod_25 : Value} {x_mod_26 : Value} {x_mod_27 : Value} {x_mod_28 : Value} {x_mod_29 : Value} {x_mod_30 : Value} {x_mod_31 : Value} {x_mod_32 : Value} {p_mod p_mog a_mod a_mog : Nat} {mog : Nat → UInt64} {t : Nat} {nw n th : Nat} (f0_mod : ws[p_mod]? = some (a_mod, .inr (8, .int (nI (th)) :: .int (nI (n)) :: x_mod_2 :: x_mod_3 :: x_mod_4 :: .int (nI (nw)) :: x_mod_6 :: x_mod_7 :: x_mod_8 :: x_mod_9 :: x_mod_10 :: x_mod_11 :: x_mod_12 :: x_mod_13 :: x_mod_14 :: x_mod_15 :: x_mod_16 :: x_mod_17 :: x_mod_18 :: x_mod_19 :: .ref a_mog :: x_mod_21 :: x_mod_22 :: x_mod_23 :: x_mod_24 :: x_mod_25 :: x_mod_26 :: x_mod_27 :: x_mod_28 :: x_mod_29 :: x_mod_30 :: x_mod_31 :: x_mod_32 :: []))) (f0_mog : ws[p_mog]? = some (a_mog, eD y 192 mog)) (hw : nw ≤ 24) (hn : n ≤ 12) (ht : t < nw) (hnn : nnCore mog t) (hz : nnCoreZ mog t) : gMd l yX7_core wsX7_core ({ frames := 2, cells := 0, slots := 0, locals := 43 }) D y [.ref a_mod, .int (nI (t))] ws (fun r (_ : Unit) => r = sCore mog t) (fun (_ : Unit) => (ws.set p_mod (a_mod, .inr (8, .int (nI (0)) :: .int (nI (n)) :: x_mod_2 :: x_mod_3 :: x_mod_4 :: .int (nI (nw)) :: x_mod_6 :: x_mod_7 :: x_mod_8 :: x_mod_9 :: x_mod_10 :: x_mod_11 :: x_mod_12 :: x_mod_13 :: x_mod_14 :: x_mod_15 :: x_mod_16 :: x_mod_17 :: x_mod_18 :: x_mod_19 :: .ref a_mog :: x_mod_21 :: x_mod_22 :: x_mod_23 :: x_mod_24 :: x_mod_25 :: x_mod_26 :: x_mod_27 :: x_mod_28 :: x_mod_29 :: x_mod_30 :: x_mod_31 :: x_mod_32 :: [])))) := by
  refine g_met_d (cc := cX7_core) (maxL := 7) (by decide) rfl (Nat.le_of_ble_eq_true rfl) ?_
  intro p e s m below meth c A hx hb hml hr hts hown hnm hlocks hE hP hD hS hA ls hl
  have hown : s.vm.findClass RX7 = some m.cls := hown
  have hl : lv_has ls 7 [(0, .ref a_mod), (1, .int (nI (t)))] := hl
  have in_RX7 := in_c_X7_core_RX7
  refine lv_aload_n hx hb dX7_core_0 rfl (lv_at hl 0 rfl) ?_
  refine lv_aload_n hx hb dX7_core_1 rfl (lv_at hl 0 rfl) ?_
  refine lv_iload_n hx hb dX7_core_2 rfl (lv_at hl 1 rfl) ?_
  refine gc_V_i (As := [.int (nI (t))]) (rest := [.ref a_mod]) (c_X7_isPublished l f0_mod (by omega)) ⟨hx, hb, hml, hown, hts⟩ (cwV 1 hts gX7_core_X7_isPublished rfl rfl rfl (by decide +kernel) ⟨Nat.le_of_ble_eq_true rfl, Nat.le_of_ble_eq_true rfl⟩) hE hP hD hS hA _ f0_mod rfl rfl rfl rfl hl.1 (Nat.le_of_ble_eq_true rfl) dX7_core_3 ⟨Nat.le_of_ble_eq_true rfl, Nat.le_of_ble_eq_true rfl⟩ (fun r_3 u_3 H locs hP hD hS q_3 => ?_)
  subst q_3
  refine g_bif_eq (tgt := 13) hx hb dX7_core_6 (by decide) (fun c_6 => absurd c_6 (by rw [decide_eq_true (rq_lt ht (by omega))]; decide)) (fun c_6 => ?_)
  refine lv_iconst (v := nI 0) hx hb dX7_core_9 (by decide) ?_
  refine lv_goto (tgt := 14) hx hb dX7_core_10 (by decide) ?_
  refine gv_set f0_mod rfl (by rfl) (fun k9 h9 kk9 => va_put (D := D) (ci := 8) (v := .int (nI (0))) (ty := .int) (C := RX7) (T := TX7) (N := 33) hx hb hts in_RX7 tyX7 tyX7_ok nmX7 hown hE.1 hP hD hS k9 h9 rfl 0 (by decide) (hts (.fieldLink RX7 94 "BasketryOfficeModel" "thrown" "I") (by decide +kernel)) (fun _ h9 => h9) rfl (by decide +kernel) rfl rfl (Nat.le_of_ble_eq_true rfl) dX7_core_14 kk9) (fun H locs hP hD hS => ?_)
  refine lv_aload_n hx hb dX7_core_17 rfl (lv_at hl 0 rfl) ?_
  have f_mod := g_eq (x := (a_mod, .inr (8, .int (nI (0)) :: .int (nI (n)) :: x_mod_2 :: x_mod_3 :: x_mod_4 :: .int (nI (nw)) :: x_mod_6 :: x_mod_7 :: x_mod_8 :: x_mod_9 :: x_mod_10 :: x_mod_11 :: x_mod_12 :: x_mod_13 :: x_mod_14 :: x_mod_15 :: x_mod_16 :: x_mod_17 :: x_mod_18 :: x_mod_19 :: .ref a_mog :: x_mod_21 :: x_mod_22 :: x_mod_23 :: x_mod_24 :: x_mod_25 :: x_mod_26 :: x_mod_27 :: x_mod_28 :: x_mod_29 :: x_mod_30 :: x_mod_31 :: x_mod_32 :: []))) (f0_mod)
  refine va_get (D := D) (ci := 8) (v := .int (nI (0))) (C := RX7) (T := TX7) (N := 33) hx hb hts in_RX7 hown hE.1 (gv1 hP f_mod) 0 rfl rfl 0 (by decide) (hts (.fieldLink RX7 94 "BasketryOfficeModel" "thrown" "I") (by decide +kernel)) (fun _ h9 => h9) rfl dX7_core_18 ?_
  refine g_if_le (tgt := 26) hx hb (by omega) dX7_core_21 (by decide) (fun c_21 => ?_) (fun c_21 => absurd c_21 (by omega))
  refine lv_iconst (v := nI 0) hx hb dX7_core_26 (by decide) ?_
  refine lv_istore_n (lv' := [(2, .int (nI (0))), (0, .ref a_mod), (1, .int (nI (t)))]) hx hb dX7_core_27 rfl hl (by decide) rfl (fun ls hl => ?_)
  refine lv_iconst (v := nI 1) hx hb dX7_core_28 (by decide) ?_
  refine lv_istore_n (lv' := [(3, .int (nI (1))), (2, .int (nI (0))), (0, .ref a_mod), (1, .int (nI (t)))]) hx hb dX7_core_29 rfl hl (by decide) rfl (fun ls hl => ?_)
  have hP : gvP D vwCl (ws.set p_mod (a_mod, .inr (8, .int (nI (0)) :: .int (nI (n)) :: x_mod_2 :: x_mod_3 :: x_mod_4 :: .int (nI (nw)) :: x_mod_6 :: x_mod_7 :: x_mod_8 :: x_mod_9 :: x_mod_10 :: x_mod_11 :: x_mod_12 :: x_mod_13 :: x_mod_14 :: x_mod_15 :: x_mod_16 :: x_mod_17 :: x_mod_18 :: x_mod_19 :: .ref a_mog :: x_mod_21 :: x_mod_22 :: x_mod_23 :: x_mod_24 :: x_mod_25 :: x_mod_26 :: x_mod_27 :: x_mod_28 :: x_mod_29 :: x_mod_30 :: x_mod_31 :: x_mod_32 :: []))) _ := g_trP (rfl) hP
  have hD : gvD A (ws.set p_mod (a_mod, .inr (8, .int (nI (0)) :: .int (nI (n)) :: x_mod_2 :: x_mod_3 :: x_mod_4 :: .int (nI (nw)) :: x_mod_6 :: x_mod_7 :: x_mod_8 :: x_mod_9 :: x_mod_10 :: x_mod_11 :: x_mod_12 :: x_mod_13 :: x_mod_14 :: x_mod_15 :: x_mod_16 :: x_mod_17 :: x_mod_18 :: x_mod_19 :: .ref a_mog :: x_mod_21 :: x_mod_22 :: x_mod_23 :: x_mod_24 :: x_mod_25 :: x_mod_26 :: x_mod_27 :: x_mod_28 :: x_mod_29 :: x_mod_30 :: x_mod_31 :: x_mod_32 :: []))) := g_trD (rfl) hD
  refine g_for (fun j => (ws.set p_mod (a_mod, .inr (8, .int (nI (0)) :: .int (nI (n)) :: x_mod_2 :: x_mod_3 :: x_mod_4 :: .int (nI (nw)) :: x_mod_6 :: x_mod_7 :: x_mod_8 :: x_mod_9 :: x_mod_10 :: x_mod_11 :: x_mod_12 :: x_mod_13 :: x_mod_14 :: x_mod_15 :: x_mod_16 :: x_mod_17 :: x_mod_18 :: x_mod_19 :: .ref a_mog :: x_mod_21 :: x_mod_22 :: x_mod_23 :: x_mod_24 :: x_mod_25 :: x_mod_26 :: x_mod_27 :: x_mod_28 :: x_mod_29 :: x_mod_30 :: x_mod_31 :: x_mod_32 :: [])))) (fun j => [(0, .ref a_mod), (1, .int (nI (t))), (2, .int (nI (gtF mog t (j)))), (3, .int (nI (1 + j)))]) (3) (0) (by omega) ?_ ?_ hP hD hS (lv_sub hl [2, 3, 1, 0] rfl)
  · intro H locs ls hP hD hS hl
    have hP : gvP D vwCl (ws.set p_mod (a_mod, .inr (8, .int (nI (0)) :: .int (nI (n)) :: x_mod_2 :: x_mod_3 :: x_mod_4 :: .int (nI (nw)) :: x_mod_6 :: x_mod_7 :: x_mod_8 :: x_mod_9 :: x_mod_10 :: x_mod_11 :: x_mod_12 :: x_mod_13 :: x_mod_14 :: x_mod_15 :: x_mod_16 :: x_mod_17 :: x_mod_18 :: x_mod_19 :: .ref a_mog :: x_mod_21 :: x_mod_22 :: x_mod_23 :: x_mod_24 :: x_mod_25 :: x_mod_26 :: x_mod_27 :: x_mod_28 :: x_mod_29 :: x_mod_30 :: x_mod_31 :: x_mod_32 :: []))) H := hP
    have hD : gvD A (ws.set p_mod (a_mod, .inr (8, .int (nI (0)) :: .int (nI (n)) :: x_mod_2 :: x_mod_3 :: x_mod_4 :: .int (nI (nw)) :: x_mod_6 :: x_mod_7 :: x_mod_8 :: x_mod_9 :: x_mod_10 :: x_mod_11 :: x_mod_12 :: x_mod_13 :: x_mod_14 :: x_mod_15 :: x_mod_16 :: x_mod_17 :: x_mod_18 :: x_mod_19 :: .ref a_mog :: x_mod_21 :: x_mod_22 :: x_mod_23 :: x_mod_24 :: x_mod_25 :: x_mod_26 :: x_mod_27 :: x_mod_28 :: x_mod_29 :: x_mod_30 :: x_mod_31 :: x_mod_32 :: []))) := hD
    have hl : lv_has ls 7 [(0, .ref a_mod), (1, .int (nI (t))), (2, .int (nI (gtF mog t (3)))), (3, .int (nI (1 + 3)))] := hl
    have hgt := gtF_le mog t 3
    refine lv_iload_n hx hb dX7_core_30 rfl (lv_at hl 3 rfl) ?_
    refine lv_iconst (v := nI 4) hx hb dX7_core_31 (by decide) ?_
    refine g_icmp_ge (tgt := 71) hx hb (by omega) (by omega) dX7_core_32 (by decide) (fun c_32 => ?_) (fun c_32 => absurd c_32 (by omega))
    rcases Nat.eq_zero_or_pos (gtF mog t 3) with hs | hs
    · refine lv_iconst (v := (-1)) hx hb dX7_core_71 (by decide) ?_
      refine lv_istore_n (lv' := [(3, .int (-1)), (0, .ref a_mod), (1, .int (nI (t))), (2, .int (nI (gtF mog t (3))))]) hx hb dX7_core_72 rfl hl (by decide) rfl (fun ls hl => ?_)
      refine lv_iconst (v := nI 0) hx hb dX7_core_73 (by decide) ?_
      refine lv_istore (lv' := [(4, .int (nI (0))), (3, .int (-1)), (0, .ref a_mod), (1, .int (nI (t))), (2, .int (nI (gtF mog t (3))))]) hx hb dX7_core_74 hl (by decide) rfl (fun ls hl => ?_)
      refine lv_iload hx hb dX7_core_76 (lv_at hl 0 rfl) ?_
      refine lv_iconst (v := nI 4) hx hb dX7_core_78 (by decide) ?_
      refine g_icmp_ge (tgt := 143) hx hb (by omega) (by omega) dX7_core_79 (by decide) (fun c_79 => absurd c_79 (by omega)) (fun c_79 => ?_)
      refine lv_iload hx hb dX7_core_82 (lv_at hl 0 rfl) ?_
      refine lv_iload_n hx hb dX7_core_84 rfl (lv_at hl 4 rfl) ?_
      refine g_icmp_eq (tgt := 122) hx hb (by omega) (by omega) dX7_core_85 (by decide) (fun c_85 => ?_) (fun c_85 => absurd c_85 (by omega))
      refine lv_iconst (v := nI 0) hx hb dX7_core_122 (by decide) ?_
      refine lv_istore (lv' := [(5, .int (nI (0))), (4, .int (nI (0))), (3, .int (-1)), (0, .ref a_mod), (1, .int (nI (t))), (2, .int (nI (gtF mog t (3))))]) hx hb dX7_core_123 hl (by decide) rfl (fun ls hl => ?_)
      refine lv_iload hx hb dX7_core_125 (lv_at hl 0 rfl) ?_
      refine g_if_eq (tgt := 135) hx hb (by omega) dX7_core_127 (by decide) (fun c_127 => ?_) (fun c_127 => absurd c_127 (by omega))
      refine lv_iload_n hx hb dX7_core_135 rfl (lv_at hl 2 rfl) ?_
      refine lv_istore_n (lv' := [(3, .int (-1)), (5, .int (nI (0))), (4, .int (nI (0))), (0, .ref a_mod), (1, .int (nI (t))), (2, .int (nI (gtF mog t (3))))]) hx hb dX7_core_136 rfl hl (by decide) rfl (fun ls hl => ?_)
      refine lv_iinc (v := nI (0 + 1)) (lv' := [(4, .int (nI (0 + 1))), (3, .int (-1)), (5, .int (nI (0))), (0, .ref a_mod), (1, .int (nI (t))), (2, .int (nI (gtF mog t (3))))]) hx hb dX7_core_137 hl (k := 2) rfl (nI_add _ 1) (by decide) rfl (fun ls hl => ?_)
      refine lv_goto (tgt := 76) hx hb dX7_core_140 (by decide) ?_
      refine lv_iload hx hb dX7_core_76 (lv_at hl 0 rfl) ?_
      refine lv_iconst (v := nI 4) hx hb dX7_core_78 (by decide) ?_
      refine g_icmp_ge (tgt := 143) hx hb (by omega) (by omega) dX7_core_79 (by decide) (fun c_79 => absurd c_79 (by omega)) (fun c_79 => ?_)
      refine lv_iload hx hb dX7_core_82 (lv_at hl 0 rfl) ?_
      refine lv_iload_n hx hb dX7_core_84 rfl (lv_at hl 5 rfl) ?_
      refine g_icmp_eq (tgt := 122) hx hb (by omega) (by omega) dX7_core_85 (by decide) (fun c_85 => absurd c_85 (by omega)) (fun c_85 => ?_)
      refine lv_iload_n hx hb dX7_core_88 rfl (lv_at hl 1 rfl) ?_
      refine lv_iconst (v := (-1)) hx hb dX7_core_89 (by decide) ?_
      refine lv_icmp_eq (tgt := 118) hx hb dX7_core_90 (by decide) (fun c_90 => ?_) (fun c_90 => absurd c_90 (fun z => z rfl))
      refine lv_iconst (v := nI 1) hx hb dX7_core_118 (by decide) ?_
      refine lv_goto (tgt := 123) hx hb dX7_core_119 (by decide) ?_
      refine lv_istore (lv' := [(5, .int (nI (1))), (4, .int (nI (0 + 1))), (3, .int (-1)), (0, .ref a_mod), (1, .int (nI (t))), (2, .int (nI (gtF mog t (3))))]) hx hb dX7_core_123 hl (by decide) rfl (fun ls hl => ?_)
      refine lv_iload hx hb dX7_core_125 (lv_at hl 0 rfl) ?_
      refine g_if_eq (tgt := 135) hx hb (by omega) dX7_core_127 (by decide) (fun c_127 => absurd c_127 (by omega)) (fun c_127 => ?_)
      refine lv_iload hx hb dX7_core_130 (lv_at hl 1 rfl) ?_
      refine lv_goto (tgt := 136) hx hb dX7_core_132 (by decide) ?_
      refine lv_istore_n (lv' := [(3, .int (nI (0 + 1))), (5, .int (nI (1))), (4, .int (nI (0 + 1))), (0, .ref a_mod), (1, .int (nI (t))), (2, .int (nI (gtF mog t (3))))]) hx hb dX7_core_136 rfl hl (by decide) rfl (fun ls hl => ?_)
      refine lv_iinc (v := nI (0 + 1 + 1)) (lv' := [(4, .int (nI (0 + 1 + 1))), (3, .int (nI (0 + 1))), (5, .int (nI (1))), (0, .ref a_mod), (1, .int (nI (t))), (2, .int (nI (gtF mog t (3))))]) hx hb dX7_core_137 hl (k := 2) rfl (nI_add _ 1) (by decide) rfl (fun ls hl => ?_)
      refine lv_goto (tgt := 76) hx hb dX7_core_140 (by decide) ?_
      have hP : gvP D vwCl (ws.set p_mod (a_mod, .inr (8, .int (nI (0)) :: .int (nI (n)) :: x_mod_2 :: x_mod_3 :: x_mod_4 :: .int (nI (nw)) :: x_mod_6 :: x_mod_7 :: x_mod_8 :: x_mod_9 :: x_mod_10 :: x_mod_11 :: x_mod_12 :: x_mod_13 :: x_mod_14 :: x_mod_15 :: x_mod_16 :: x_mod_17 :: x_mod_18 :: x_mod_19 :: .ref a_mog :: x_mod_21 :: x_mod_22 :: x_mod_23 :: x_mod_24 :: x_mod_25 :: x_mod_26 :: x_mod_27 :: x_mod_28 :: x_mod_29 :: x_mod_30 :: x_mod_31 :: x_mod_32 :: []))) _ := g_trP (rfl) hP
      have hD : gvD A (ws.set p_mod (a_mod, .inr (8, .int (nI (0)) :: .int (nI (n)) :: x_mod_2 :: x_mod_3 :: x_mod_4 :: .int (nI (nw)) :: x_mod_6 :: x_mod_7 :: x_mod_8 :: x_mod_9 :: x_mod_10 :: x_mod_11 :: x_mod_12 :: x_mod_13 :: x_mod_14 :: x_mod_15 :: x_mod_16 :: x_mod_17 :: x_mod_18 :: x_mod_19 :: .ref a_mog :: x_mod_21 :: x_mod_22 :: x_mod_23 :: x_mod_24 :: x_mod_25 :: x_mod_26 :: x_mod_27 :: x_mod_28 :: x_mod_29 :: x_mod_30 :: x_mod_31 :: x_mod_32 :: []))) := g_trD (rfl) hD
      refine g_for (fun j => (ws.set p_mod (a_mod, .inr (8, .int (nI (0)) :: .int (nI (n)) :: x_mod_2 :: x_mod_3 :: x_mod_4 :: .int (nI (nw)) :: x_mod_6 :: x_mod_7 :: x_mod_8 :: x_mod_9 :: x_mod_10 :: x_mod_11 :: x_mod_12 :: x_mod_13 :: x_mod_14 :: x_mod_15 :: x_mod_16 :: x_mod_17 :: x_mod_18 :: x_mod_19 :: .ref a_mog :: x_mod_21 :: x_mod_22 :: x_mod_23 :: x_mod_24 :: x_mod_25 :: x_mod_26 :: x_mod_27 :: x_mod_28 :: x_mod_29 :: x_mod_30 :: x_mod_31 :: x_mod_32 :: [])))) (fun j => [(0, .ref a_mod), (1, .int (nI (t))), (2, .int (nI (gtF mog t (3)))), (3, .int (nI (lsF mog t (gtF mog t 3) 1 (j)))), (4, .int (nI (1 + 1 + j)))]) (3 - 1) (0) (by omega) ?_ ?_ hP hD hS (lv_sub hl [3, 4, 5, 1, 0] rfl)
      · intro H locs ls hP hD hS hl
        have hP : gvP D vwCl (ws.set p_mod (a_mod, .inr (8, .int (nI (0)) :: .int (nI (n)) :: x_mod_2 :: x_mod_3 :: x_mod_4 :: .int (nI (nw)) :: x_mod_6 :: x_mod_7 :: x_mod_8 :: x_mod_9 :: x_mod_10 :: x_mod_11 :: x_mod_12 :: x_mod_13 :: x_mod_14 :: x_mod_15 :: x_mod_16 :: x_mod_17 :: x_mod_18 :: x_mod_19 :: .ref a_mog :: x_mod_21 :: x_mod_22 :: x_mod_23 :: x_mod_24 :: x_mod_25 :: x_mod_26 :: x_mod_27 :: x_mod_28 :: x_mod_29 :: x_mod_30 :: x_mod_31 :: x_mod_32 :: []))) H := hP
        have hD : gvD A (ws.set p_mod (a_mod, .inr (8, .int (nI (0)) :: .int (nI (n)) :: x_mod_2 :: x_mod_3 :: x_mod_4 :: .int (nI (nw)) :: x_mod_6 :: x_mod_7 :: x_mod_8 :: x_mod_9 :: x_mod_10 :: x_mod_11 :: x_mod_12 :: x_mod_13 :: x_mod_14 :: x_mod_15 :: x_mod_16 :: x_mod_17 :: x_mod_18 :: x_mod_19 :: .ref a_mog :: x_mod_21 :: x_mod_22 :: x_mod_23 :: x_mod_24 :: x_mod_25 :: x_mod_26 :: x_mod_27 :: x_mod_28 :: x_mod_29 :: x_mod_30 :: x_mod_31 :: x_mod_32 :: []))) := hD
        have hl : lv_has ls 7 [(0, .ref a_mod), (1, .int (nI (t))), (2, .int (nI (gtF mog t (3)))), (3, .int (nI (lsF mog t (gtF mog t 3) 1 (3 - 1)))), (4, .int (nI (1 + 1 + 3 - 1)))] := hl
        have hls := lsF_le mog t (gtF mog t 3) 1 (3 - 1)
        refine lv_iload hx hb dX7_core_76 (lv_at hl 4 rfl) ?_
        refine lv_iconst (v := nI 4) hx hb dX7_core_78 (by decide) ?_
        refine g_icmp_ge (tgt := 143) hx hb (by omega) (by omega) dX7_core_79 (by decide) (fun c_79 => ?_) (fun c_79 => absurd c_79 (by omega))
        refine g_dconst0 hx hb dX7_core_143 ?_
        refine lv_dstore (lv' := [(4, .double 0), (0, .ref a_mod), (1, .int (nI (t))), (2, .int (nI (gtF mog t (3)))), (3, .int (nI (lsF mog t (gtF mog t 3) 1 (3 - 1))))]) hx hb dX7_core_144 hl (by decide) rfl (fun ls hl => ?_)
        refine lv_iconst (v := nI 0) hx hb dX7_core_146 (by decide) ?_
        refine lv_istore (lv' := [(6, .int (nI (0))), (4, .double 0), (0, .ref a_mod), (1, .int (nI (t))), (2, .int (nI (gtF mog t (3)))), (3, .int (nI (lsF mog t (gtF mog t 3) 1 (3 - 1))))]) hx hb dX7_core_147 hl (by decide) rfl (fun ls hl => ?_)
        have hP : gvP D vwCl (ws.set p_mod (a_mod, .inr (8, .int (nI (0)) :: .int (nI (n)) :: x_mod_2 :: x_mod_3 :: x_mod_4 :: .int (nI (nw)) :: x_mod_6 :: x_mod_7 :: x_mod_8 :: x_mod_9 :: x_mod_10 :: x_mod_11 :: x_mod_12 :: x_mod_13 :: x_mod_14 :: x_mod_15 :: x_mod_16 :: x_mod_17 :: x_mod_18 :: x_mod_19 :: .ref a_mog :: x_mod_21 :: x_mod_22 :: x_mod_23 :: x_mod_24 :: x_mod_25 :: x_mod_26 :: x_mod_27 :: x_mod_28 :: x_mod_29 :: x_mod_30 :: x_mod_31 :: x_mod_32 :: []))) _ := g_trP (rfl) hP
        have hD : gvD A (ws.set p_mod (a_mod, .inr (8, .int (nI (0)) :: .int (nI (n)) :: x_mod_2 :: x_mod_3 :: x_mod_4 :: .int (nI (nw)) :: x_mod_6 :: x_mod_7 :: x_mod_8 :: x_mod_9 :: x_mod_10 :: x_mod_11 :: x_mod_12 :: x_mod_13 :: x_mod_14 :: x_mod_15 :: x_mod_16 :: x_mod_17 :: x_mod_18 :: x_mod_19 :: .ref a_mog :: x_mod_21 :: x_mod_22 :: x_mod_23 :: x_mod_24 :: x_mod_25 :: x_mod_26 :: x_mod_27 :: x_mod_28 :: x_mod_29 :: x_mod_30 :: x_mod_31 :: x_mod_32 :: []))) := g_trD (rfl) hD
        refine g_for (fun j => (ws.set p_mod (a_mod, .inr (8, .int (nI (0)) :: .int (nI (n)) :: x_mod_2 :: x_mod_3 :: x_mod_4 :: .int (nI (nw)) :: x_mod_6 :: x_mod_7 :: x_mod_8 :: x_mod_9 :: x_mod_10 :: x_mod_11 :: x_mod_12 :: x_mod_13 :: x_mod_14 :: x_mod_15 :: x_mod_16 :: x_mod_17 :: x_mod_18 :: x_mod_19 :: .ref a_mog :: x_mod_21 :: x_mod_22 :: x_mod_23 :: x_mod_24 :: x_mod_25 :: x_mod_26 :: x_mod_27 :: x_mod_28 :: x_mod_29 :: x_mod_30 :: x_mod_31 :: x_mod_32 :: [])))) (fun j => [(0, .ref a_mod), (1, .int (nI (t))), (2, .int (nI (gtF mog t (3)))), (3, .int (nI (lsF mog t (gtF mog t 3) 1 (3 - 1)))), (4, .double (smF mog t (gtF mog t 3) (lsF mog t (gtF mog t 3) 1 (3 - 1)) (j))), (6, .int (nI (j)))]) (4) (0) (by omega) ?_ ?_ hP hD hS (lv_sub hl [2, 3, 4, 5, 1, 0] rfl)
        · intro H locs ls hP hD hS hl
          have hP : gvP D vwCl (ws.set p_mod (a_mod, .inr (8, .int (nI (0)) :: .int (nI (n)) :: x_mod_2 :: x_mod_3 :: x_mod_4 :: .int (nI (nw)) :: x_mod_6 :: x_mod_7 :: x_mod_8 :: x_mod_9 :: x_mod_10 :: x_mod_11 :: x_mod_12 :: x_mod_13 :: x_mod_14 :: x_mod_15 :: x_mod_16 :: x_mod_17 :: x_mod_18 :: x_mod_19 :: .ref a_mog :: x_mod_21 :: x_mod_22 :: x_mod_23 :: x_mod_24 :: x_mod_25 :: x_mod_26 :: x_mod_27 :: x_mod_28 :: x_mod_29 :: x_mod_30 :: x_mod_31 :: x_mod_32 :: []))) H := hP
          have hD : gvD A (ws.set p_mod (a_mod, .inr (8, .int (nI (0)) :: .int (nI (n)) :: x_mod_2 :: x_mod_3 :: x_mod_4 :: .int (nI (nw)) :: x_mod_6 :: x_mod_7 :: x_mod_8 :: x_mod_9 :: x_mod_10 :: x_mod_11 :: x_mod_12 :: x_mod_13 :: x_mod_14 :: x_mod_15 :: x_mod_16 :: x_mod_17 :: x_mod_18 :: x_mod_19 :: .ref a_mog :: x_mod_21 :: x_mod_22 :: x_mod_23 :: x_mod_24 :: x_mod_25 :: x_mod_26 :: x_mod_27 :: x_mod_28 :: x_mod_29 :: x_mod_30 :: x_mod_31 :: x_mod_32 :: []))) := hD
          have hl : lv_has ls 7 [(0, .ref a_mod), (1, .int (nI (t))), (2, .int (nI (gtF mog t (3)))), (3, .int (nI (lsF mog t (gtF mog t 3) 1 (3 - 1)))), (4, .double (smF mog t (gtF mog t 3) (lsF mog t (gtF mog t 3) 1 (3 - 1)) (4))), (6, .int (nI (4)))] := hl
          refine lv_iload hx hb dX7_core_149 (lv_at hl 5 rfl) ?_
          refine lv_iconst (v := nI 4) hx hb dX7_core_151 (by decide) ?_
          refine g_icmp_ge (tgt := 193) hx hb (by omega) (by omega) dX7_core_152 (by decide) (fun c_152 => ?_) (fun c_152 => absurd c_152 (by omega))
          refine lv_dload hx hb dX7_core_193 (lv_at hl 4 rfl) ?_
          refine lv_ldc2d (v := 4611686018427387904) hx hb hown (hts (.constantDouble RX7 200 (4611686018427387904)) (by decide +kernel)) dX7_core_195 ?_
          refine lv_ddiv hx hb dX7_core_198 (hnn _ _ 0 (by decide)).2 ?_
          refine g_dret hx hb hr hlocks () dX7_core_199 hS hP hD ?_
          rw [sCore, if_pos hs]
          rfl
        · intro j hj_j ih_j H locs ls hP hD hS hl
          have hP : gvP D vwCl (ws.set p_mod (a_mod, .inr (8, .int (nI (0)) :: .int (nI (n)) :: x_mod_2 :: x_mod_3 :: x_mod_4 :: .int (nI (nw)) :: x_mod_6 :: x_mod_7 :: x_mod_8 :: x_mod_9 :: x_mod_10 :: x_mod_11 :: x_mod_12 :: x_mod_13 :: x_mod_14 :: x_mod_15 :: x_mod_16 :: x_mod_17 :: x_mod_18 :: x_mod_19 :: .ref a_mog :: x_mod_21 :: x_mod_22 :: x_mod_23 :: x_mod_24 :: x_mod_25 :: x_mod_26 :: x_mod_27 :: x_mod_28 :: x_mod_29 :: x_mod_30 :: x_mod_31 :: x_mod_32 :: []))) H := hP
          have hD : gvD A (ws.set p_mod (a_mod, .inr (8, .int (nI (0)) :: .int (nI (n)) :: x_mod_2 :: x_mod_3 :: x_mod_4 :: .int (nI (nw)) :: x_mod_6 :: x_mod_7 :: x_mod_8 :: x_mod_9 :: x_mod_10 :: x_mod_11 :: x_mod_12 :: x_mod_13 :: x_mod_14 :: x_mod_15 :: x_mod_16 :: x_mod_17 :: x_mod_18 :: x_mod_19 :: .ref a_mog :: x_mod_21 :: x_mod_22 :: x_mod_23 :: x_mod_24 :: x_mod_25 :: x_mod_26 :: x_mod_27 :: x_mod_28 :: x_mod_29 :: x_mod_30 :: x_mod_31 :: x_mod_32 :: []))) := hD
          have hl : lv_has ls 7 [(0, .ref a_mod), (1, .int (nI (t))), (2, .int (nI (gtF mog t (3)))), (3, .int (nI (lsF mog t (gtF mog t 3) 1 (3 - 1)))), (4, .double (smF mog t (gtF mog t 3) (lsF mog t (gtF mog t 3) 1 (3 - 1)) (j))), (6, .int (nI (j)))] := hl
          refine lv_iload hx hb dX7_core_149 (lv_at hl 5 rfl) ?_
          refine lv_iconst (v := nI 4) hx hb dX7_core_151 (by decide) ?_
          refine g_icmp_ge (tgt := 193) hx hb (by omega) (by omega) dX7_core_152 (by decide) (fun c_152 => absurd c_152 (by omega)) (fun c_152 => ?_)
          refine lv_dload hx hb dX7_core_155 (lv_at hl 4 rfl) ?_
          refine lv_iload hx hb dX7_core_157 (lv_at hl 5 rfl) ?_
          refine lv_iload_n hx hb dX7_core_159 rfl (lv_at hl 2 rfl) ?_
          refine g_icmp_eq (tgt := 169) hx hb (by omega) (by omega) dX7_core_160 (by decide) (fun c_160 => ?_) (fun c_160 => ?_)
          · refine g_dconst0 hx hb dX7_core_169 ?_
            refine lv_goto (tgt := 184) hx hb dX7_core_170 (by decide) ?_
            skip
            refine lv_dadd hx hb dX7_core_184 (hz _ _ j hj_j).1 ?_
            refine g_dv (v' := smF mog t (gtF mog t 3) (lsF mog t (gtF mog t 3) 1 (3 - 1)) (j + 1)) ((hz _ _ j hj_j).2.trans (by rw [smF, if_neg (fun z => z.1 c_160)])) ?_
            refine lv_dstore (lv' := [(4, .double (smF mog t (gtF mog t 3) (lsF mog t (gtF mog t 3) 1 (3 - 1)) (j + 1))), (0, .ref a_mod), (1, .int (nI (t))), (2, .int (nI (gtF mog t (3)))), (3, .int (nI (lsF mog t (gtF mog t 3) 1 (3 - 1)))), (6, .int (nI (j)))]) hx hb dX7_core_185 hl (by decide) rfl (fun ls hl => ?_)
            refine lv_iinc (v := nI (j + 1)) (lv' := [(6, .int (nI (j + 1))), (4, .double (smF mog t (gtF mog t 3) (lsF mog t (gtF mog t 3) 1 (3 - 1)) (j + 1))), (0, .ref a_mod), (1, .int (nI (t))), (2, .int (nI (gtF mog t (3)))), (3, .int (nI (lsF mog t (gtF mog t 3) 1 (3 - 1))))]) hx hb dX7_core_187 hl (k := 5) rfl (nI_add _ 1) (by decide) rfl (fun ls hl => ?_)
            refine lv_goto (tgt := 149) hx hb dX7_core_190 (by decide) ?_
            have hP : gvP D vwCl (ws.set p_mod (a_mod, .inr (8, .int (nI (0)) :: .int (nI (n)) :: x_mod_2 :: x_mod_3 :: x_mod_4 :: .int (nI (nw)) :: x_mod_6 :: x_mod_7 :: x_mod_8 :: x_mod_9 :: x_mod_10 :: x_mod_11 :: x_mod_12 :: x_mod_13 :: x_mod_14 :: x_mod_15 :: x_mod_16 :: x_mod_17 :: x_mod_18 :: x_mod_19 :: .ref a_mog :: x_mod_21 :: x_mod_22 :: x_mod_23 :: x_mod_24 :: x_mod_25 :: x_mod_26 :: x_mod_27 :: x_mod_28 :: x_mod_29 :: x_mod_30 :: x_mod_31 :: x_mod_32 :: []))) _ := g_trP (rfl) hP
            have hD : gvD A (ws.set p_mod (a_mod, .inr (8, .int (nI (0)) :: .int (nI (n)) :: x_mod_2 :: x_mod_3 :: x_mod_4 :: .int (nI (nw)) :: x_mod_6 :: x_mod_7 :: x_mod_8 :: x_mod_9 :: x_mod_10 :: x_mod_11 :: x_mod_12 :: x_mod_13 :: x_mod_14 :: x_mod_15 :: x_mod_16 :: x_mod_17 :: x_mod_18 :: x_mod_19 :: .ref a_mog :: x_mod_21 :: x_mod_22 :: x_mod_23 :: x_mod_24 :: x_mod_25 :: x_mod_26 :: x_mod_27 :: x_mod_28 :: x_mod_29 :: x_mod_30 :: x_mod_31 :: x_mod_32 :: []))) := g_trD (rfl) hD
            exact ih_j H locs ls hP hD hS (lv_sub hl [2, 3, 4, 5, 1, 0] rfl)
          · refine lv_iload hx hb dX7_core_163 (lv_at hl 5 rfl) ?_
            refine lv_iload_n hx hb dX7_core_165 rfl (lv_at hl 3 rfl) ?_
            refine g_icmp_ne (tgt := 173) hx hb (by omega) (by omega) dX7_core_166 (by decide) (fun c_166 => ?_) (fun c_166 => ?_)
            · refine lv_aload_n hx hb dX7_core_173 rfl (lv_at hl 0 rfl) ?_
              have f_mod := g_eq (x := (a_mod, .inr (8, .int (nI (0)) :: .int (nI (n)) :: x_mod_2 :: x_mod_3 :: x_mod_4 :: .int (nI (nw)) :: x_mod_6 :: x_mod_7 :: x_mod_8 :: x_mod_9 :: x_mod_10 :: x_mod_11 :: x_mod_12 :: x_mod_13 :: x_mod_14 :: x_mod_15 :: x_mod_16 :: x_mod_17 :: x_mod_18 :: x_mod_19 :: .ref a_mog :: x_mod_21 :: x_mod_22 :: x_mod_23 :: x_mod_24 :: x_mod_25 :: x_mod_26 :: x_mod_27 :: x_mod_28 :: x_mod_29 :: x_mod_30 :: x_mod_31 :: x_mod_32 :: []))) (f0_mod)
              refine va_get (D := D) (ci := 8) (v := .ref a_mog) (C := RX7) (T := TX7) (N := 33) hx hb hts in_RX7 hown hE.1 (gv1 hP f_mod) 0 rfl rfl 20 (by decide) (hts (.fieldLink RX7 57 "BasketryOfficeModel" "ofGroup" "[D") (by decide +kernel)) (fun _ h9 => h9) rfl dX7_core_174 ?_
              refine lv_iconst (v := nI 4) hx hb dX7_core_177 (by decide) ?_
              refine lv_iload_n hx hb dX7_core_178 rfl (lv_at hl 1 rfl) ?_
              refine g_imul hx hb dX7_core_179 (pk_mul _ _) ?_
              refine lv_iload hx hb dX7_core_180 (lv_at hl 5 rfl) ?_
              refine g_iadd hx hb dX7_core_182 (nI_add _ _) ?_
              have f_mog := g_ne (x := (a_mod, .inr (8, .int (nI (0)) :: .int (nI (n)) :: x_mod_2 :: x_mod_3 :: x_mod_4 :: .int (nI (nw)) :: x_mod_6 :: x_mod_7 :: x_mod_8 :: x_mod_9 :: x_mod_10 :: x_mod_11 :: x_mod_12 :: x_mod_13 :: x_mod_14 :: x_mod_15 :: x_mod_16 :: x_mod_17 :: x_mod_18 :: x_mod_19 :: .ref a_mog :: x_mod_21 :: x_mod_22 :: x_mod_23 :: x_mod_24 :: x_mod_25 :: x_mod_26 :: x_mod_27 :: x_mod_28 :: x_mod_29 :: x_mod_30 :: x_mod_31 :: x_mod_32 :: []))) (g_kne f0_mod f0_mog (Nat.ne_of_beq_eq_false rfl)) (f0_mog)
              refine g_dald hx hb hE hP _ f_mog (by omega) (by decide) dX7_core_183 ?_
              refine g_dv (v' := mog (t * 4 + (j))) (congrArg mog (by omega)) ?_
              refine lv_dadd hx hb dX7_core_184 (hnn _ _ j hj_j).1 ?_
              refine g_dv (v' := smF mog t (gtF mog t 3) (lsF mog t (gtF mog t 3) 1 (3 - 1)) (j + 1)) (by rw [smF, if_pos ⟨c_160, c_166⟩]) ?_
              refine lv_dstore (lv' := [(4, .double (smF mog t (gtF mog t 3) (lsF mog t (gtF mog t 3) 1 (3 - 1)) (j + 1))), (0, .ref a_mod), (1, .int (nI (t))), (2, .int (nI (gtF mog t (3)))), (3, .int (nI (lsF mog t (gtF mog t 3) 1 (3 - 1)))), (6, .int (nI (j)))]) hx hb dX7_core_185 hl (by decide) rfl (fun ls hl => ?_)
              refine lv_iinc (v := nI (j + 1)) (lv' := [(6, .int (nI (j + 1))), (4, .double (smF mog t (gtF mog t 3) (lsF mog t (gtF mog t 3) 1 (3 - 1)) (j + 1))), (0, .ref a_mod), (1, .int (nI (t))), (2, .int (nI (gtF mog t (3)))), (3, .int (nI (lsF mog t (gtF mog t 3) 1 (3 - 1))))]) hx hb dX7_core_187 hl (k := 5) rfl (nI_add _ 1) (by decide) rfl (fun ls hl => ?_)
              refine lv_goto (tgt := 149) hx hb dX7_core_190 (by decide) ?_
              have hP : gvP D vwCl (ws.set p_mod (a_mod, .inr (8, .int (nI (0)) :: .int (nI (n)) :: x_mod_2 :: x_mod_3 :: x_mod_4 :: .int (nI (nw)) :: x_mod_6 :: x_mod_7 :: x_mod_8 :: x_mod_9 :: x_mod_10 :: x_mod_11 :: x_mod_12 :: x_mod_13 :: x_mod_14 :: x_mod_15 :: x_mod_16 :: x_mod_17 :: x_mod_18 :: x_mod_19 :: .ref a_mog :: x_mod_21 :: x_mod_22 :: x_mod_23 :: x_mod_24 :: x_mod_25 :: x_mod_26 :: x_mod_27 :: x_mod_28 :: x_mod_29 :: x_mod_30 :: x_mod_31 :: x_mod_32 :: []))) _ := g_trP (rfl) hP
              have hD : gvD A (ws.set p_mod (a_mod, .inr (8, .int (nI (0)) :: .int (nI (n)) :: x_mod_2 :: x_mod_3 :: x_mod_4 :: .int (nI (nw)) :: x_mod_6 :: x_mod_7 :: x_mod_8 :: x_mod_9 :: x_mod_10 :: x_mod_11 :: x_mod_12 :: x_mod_13 :: x_mod_14 :: x_mod_15 :: x_mod_16 :: x_mod_17 :: x_mod_18 :: x_mod_19 :: .ref a_mog :: x_mod_21 :: x_mod_22 :: x_mod_23 :: x_mod_24 :: x_mod_25 :: x_mod_26 :: x_mod_27 :: x_mod_28 :: x_mod_29 :: x_mod_30 :: x_mod_31 :: x_mod_32 :: []))) := g_trD (rfl) hD
              exact ih_j H locs ls hP hD hS (lv_sub hl [2, 3, 4, 5, 1, 0] rfl)
            · refine g_dconst0 hx hb dX7_core_169 ?_
              refine lv_goto (tgt := 184) hx hb dX7_core_170 (by decide) ?_
              skip
              refine lv_dadd hx hb dX7_core_184 (hz _ _ j hj_j).1 ?_
              refine g_dv (v' := smF mog t (gtF mog t 3) (lsF mog t (gtF mog t 3) 1 (3 - 1)) (j + 1)) ((hz _ _ j hj_j).2.trans (by rw [smF, if_neg (fun z => z.2 c_166)])) ?_
              refine lv_dstore (lv' := [(4, .double (smF mog t (gtF mog t 3) (lsF mog t (gtF mog t 3) 1 (3 - 1)) (j + 1))), (0, .ref a_mod), (1, .int (nI (t))), (2, .int (nI (gtF mog t (3)))), (3, .int (nI (lsF mog t (gtF mog t 3) 1 (3 - 1)))), (6, .int (nI (j)))]) hx hb dX7_core_185 hl (by decide) rfl (fun ls hl => ?_)
              refine lv_iinc (v := nI (j + 1)) (lv' := [(6, .int (nI (j + 1))), (4, .double (smF mog t (gtF mog t 3) (lsF mog t (gtF mog t 3) 1 (3 - 1)) (j + 1))), (0, .ref a_mod), (1, .int (nI (t))), (2, .int (nI (gtF mog t (3)))), (3, .int (nI (lsF mog t (gtF mog t 3) 1 (3 - 1))))]) hx hb dX7_core_187 hl (k := 5) rfl (nI_add _ 1) (by decide) rfl (fun ls hl => ?_)
              refine lv_goto (tgt := 149) hx hb dX7_core_190 (by decide) ?_
              have hP : gvP D vwCl (ws.set p_mod (a_mod, .inr (8, .int (nI (0)) :: .int (nI (n)) :: x_mod_2 :: x_mod_3 :: x_mod_4 :: .int (nI (nw)) :: x_mod_6 :: x_mod_7 :: x_mod_8 :: x_mod_9 :: x_mod_10 :: x_mod_11 :: x_mod_12 :: x_mod_13 :: x_mod_14 :: x_mod_15 :: x_mod_16 :: x_mod_17 :: x_mod_18 :: x_mod_19 :: .ref a_mog :: x_mod_21 :: x_mod_22 :: x_mod_23 :: x_mod_24 :: x_mod_25 :: x_mod_26 :: x_mod_27 :: x_mod_28 :: x_mod_29 :: x_mod_30 :: x_mod_31 :: x_mod_32 :: []))) _ := g_trP (rfl) hP
              have hD : gvD A (ws.set p_mod (a_mod, .inr (8, .int (nI (0)) :: .int (nI (n)) :: x_mod_2 :: x_mod_3 :: x_mod_4 :: .int (nI (nw)) :: x_mod_6 :: x_mod_7 :: x_mod_8 :: x_mod_9 :: x_mod_10 :: x_mod_11 :: x_mod_12 :: x_mod_13 :: x_mod_14 :: x_mod_15 :: x_mod_16 :: x_mod_17 :: x_mod_18 :: x_mod_19 :: .ref a_mog :: x_mod_21 :: x_mod_22 :: x_mod_23 :: x_mod_24 :: x_mod_25 :: x_mod_26 :: x_mod_27 :: x_mod_28 :: x_mod_29 :: x_mod_30 :: x_mod_31 :: x_mod_32 :: []))) := g_trD (rfl) hD
              exact ih_j H locs ls hP hD hS (lv_sub hl [2, 3, 4, 5, 1, 0] rfl)
      · intro j hj_j ih_j H locs ls hP hD hS hl
        have hP : gvP D vwCl (ws.set p_mod (a_mod, .inr (8, .int (nI (0)) :: .int (nI (n)) :: x_mod_2 :: x_mod_3 :: x_mod_4 :: .int (nI (nw)) :: x_mod_6 :: x_mod_7 :: x_mod_8 :: x_mod_9 :: x_mod_10 :: x_mod_11 :: x_mod_12 :: x_mod_13 :: x_mod_14 :: x_mod_15 :: x_mod_16 :: x_mod_17 :: x_mod_18 :: x_mod_19 :: .ref a_mog :: x_mod_21 :: x_mod_22 :: x_mod_23 :: x_mod_24 :: x_mod_25 :: x_mod_26 :: x_mod_27 :: x_mod_28 :: x_mod_29 :: x_mod_30 :: x_mod_31 :: x_mod_32 :: []))) H := hP
        have hD : gvD A (ws.set p_mod (a_mod, .inr (8, .int (nI (0)) :: .int (nI (n)) :: x_mod_2 :: x_mod_3 :: x_mod_4 :: .int (nI (nw)) :: x_mod_6 :: x_mod_7 :: x_mod_8 :: x_mod_9 :: x_mod_10 :: x_mod_11 :: x_mod_12 :: x_mod_13 :: x_mod_14 :: x_mod_15 :: x_mod_16 :: x_mod_17 :: x_mod_18 :: x_mod_19 :: .ref a_mog :: x_mod_21 :: x_mod_22 :: x_mod_23 :: x_mod_24 :: x_mod_25 :: x_mod_26 :: x_mod_27 :: x_mod_28 :: x_mod_29 :: x_mod_30 :: x_mod_31 :: x_mod_32 :: []))) := hD
        have hl : lv_has ls 7 [(0, .ref a_mod), (1, .int (nI (t))), (2, .int (nI (gtF mog t (3)))), (3, .int (nI (lsF mog t (gtF mog t 3) 1 (j)))), (4, .int (nI (1 + 1 + j)))] := hl
        have hls := lsF_le mog t (gtF mog t 3) 1 j
        refine lv_iload hx hb dX7_core_76 (lv_at hl 4 rfl) ?_
        refine lv_iconst (v := nI 4) hx hb dX7_core_78 (by decide) ?_
        refine g_icmp_ge (tgt := 143) hx hb (by omega) (by omega) dX7_core_79 (by decide) (fun c_79 => absurd c_79 (by omega)) (fun c_79 => ?_)
        refine lv_iload hx hb dX7_core_82 (lv_at hl 4 rfl) ?_
        refine lv_iload_n hx hb dX7_core_84 rfl (lv_at hl 2 rfl) ?_
        refine g_icmp_eq (tgt := 122) hx hb (by omega) (by omega) dX7_core_85 (by decide) (fun c_85 => ?_) (fun c_85 => ?_)
        · refine lv_iconst (v := nI 0) hx hb dX7_core_122 (by decide) ?_
          refine lv_istore (lv' := [(5, .int (nI (0))), (0, .ref a_mod), (1, .int (nI (t))), (2, .int (nI (gtF mog t (3)))), (3, .int (nI (lsF mog t (gtF mog t 3) 1 (j)))), (4, .int (nI (1 + 1 + j)))]) hx hb dX7_core_123 hl (by decide) rfl (fun ls hl => ?_)
          refine lv_iload hx hb dX7_core_125 (lv_at hl 0 rfl) ?_
          refine g_if_eq (tgt := 135) hx hb (by omega) dX7_core_127 (by decide) (fun c_127 => ?_) (fun c_127 => absurd c_127 (by omega))
          refine lv_iload_n hx hb dX7_core_135 rfl (lv_at hl 4 rfl) ?_
          refine lv_istore_n (lv' := [(3, .int (nI (lsF mog t (gtF mog t 3) 1 (j)))), (5, .int (nI (0))), (0, .ref a_mod), (1, .int (nI (t))), (2, .int (nI (gtF mog t (3)))), (4, .int (nI (1 + 1 + j)))]) hx hb dX7_core_136 rfl hl (by decide) rfl (fun ls hl => ?_)
          refine lv_iinc (v := nI (1 + 1 + j + 1)) (lv' := [(4, .int (nI (1 + 1 + j + 1))), (3, .int (nI (lsF mog t (gtF mog t 3) 1 (j)))), (5, .int (nI (0))), (0, .ref a_mod), (1, .int (nI (t))), (2, .int (nI (gtF mog t (3))))]) hx hb dX7_core_137 hl (k := 5) rfl (nI_add _ 1) (by decide) rfl (fun ls hl => ?_)
          refine lv_goto (tgt := 76) hx hb dX7_core_140 (by decide) ?_
          have hP : gvP D vwCl (ws.set p_mod (a_mod, .inr (8, .int (nI (0)) :: .int (nI (n)) :: x_mod_2 :: x_mod_3 :: x_mod_4 :: .int (nI (nw)) :: x_mod_6 :: x_mod_7 :: x_mod_8 :: x_mod_9 :: x_mod_10 :: x_mod_11 :: x_mod_12 :: x_mod_13 :: x_mod_14 :: x_mod_15 :: x_mod_16 :: x_mod_17 :: x_mod_18 :: x_mod_19 :: .ref a_mog :: x_mod_21 :: x_mod_22 :: x_mod_23 :: x_mod_24 :: x_mod_25 :: x_mod_26 :: x_mod_27 :: x_mod_28 :: x_mod_29 :: x_mod_30 :: x_mod_31 :: x_mod_32 :: []))) _ := g_trP (rfl) hP
          have hD : gvD A (ws.set p_mod (a_mod, .inr (8, .int (nI (0)) :: .int (nI (n)) :: x_mod_2 :: x_mod_3 :: x_mod_4 :: .int (nI (nw)) :: x_mod_6 :: x_mod_7 :: x_mod_8 :: x_mod_9 :: x_mod_10 :: x_mod_11 :: x_mod_12 :: x_mod_13 :: x_mod_14 :: x_mod_15 :: x_mod_16 :: x_mod_17 :: x_mod_18 :: x_mod_19 :: .ref a_mog :: x_mod_21 :: x_mod_22 :: x_mod_23 :: x_mod_24 :: x_mod_25 :: x_mod_26 :: x_mod_27 :: x_mod_28 :: x_mod_29 :: x_mod_30 :: x_mod_31 :: x_mod_32 :: []))) := g_trD (rfl) hD
          exact ih_j H locs ls hP hD hS (lv_sub hl [3, 4, 5, 1, 0] (by rw [lsF, if_neg (fun z => z.1 c_85)]; rfl))
        · refine lv_iload_n hx hb dX7_core_88 rfl (lv_at hl 3 rfl) ?_
          refine lv_iconst (v := (-1)) hx hb dX7_core_89 (by decide) ?_
          refine lv_icmp_eq (tgt := 118) hx hb dX7_core_90 (by decide) (fun c_90 => absurd c_90 (nI_neg (by omega))) (fun c_90 => ?_)
          refine lv_aload_n hx hb dX7_core_93 rfl (lv_at hl 0 rfl) ?_
          have f_mod := g_eq (x := (a_mod, .inr (8, .int (nI (0)) :: .int (nI (n)) :: x_mod_2 :: x_mod_3 :: x_mod_4 :: .int (nI (nw)) :: x_mod_6 :: x_mod_7 :: x_mod_8 :: x_mod_9 :: x_mod_10 :: x_mod_11 :: x_mod_12 :: x_mod_13 :: x_mod_14 :: x_mod_15 :: x_mod_16 :: x_mod_17 :: x_mod_18 :: x_mod_19 :: .ref a_mog :: x_mod_21 :: x_mod_22 :: x_mod_23 :: x_mod_24 :: x_mod_25 :: x_mod_26 :: x_mod_27 :: x_mod_28 :: x_mod_29 :: x_mod_30 :: x_mod_31 :: x_mod_32 :: []))) (f0_mod)
          refine va_get (D := D) (ci := 8) (v := .ref a_mog) (C := RX7) (T := TX7) (N := 33) hx hb hts in_RX7 hown hE.1 (gv1 hP f_mod) 0 rfl rfl 20 (by decide) (hts (.fieldLink RX7 57 "BasketryOfficeModel" "ofGroup" "[D") (by decide +kernel)) (fun _ h9 => h9) rfl dX7_core_94 ?_
          refine lv_iconst (v := nI 4) hx hb dX7_core_97 (by decide) ?_
          refine lv_iload_n hx hb dX7_core_98 rfl (lv_at hl 1 rfl) ?_
          refine g_imul hx hb dX7_core_99 (pk_mul _ _) ?_
          refine lv_iload hx hb dX7_core_100 (lv_at hl 4 rfl) ?_
          refine g_iadd hx hb dX7_core_102 (nI_add _ _) ?_
          have f_mog := g_ne (x := (a_mod, .inr (8, .int (nI (0)) :: .int (nI (n)) :: x_mod_2 :: x_mod_3 :: x_mod_4 :: .int (nI (nw)) :: x_mod_6 :: x_mod_7 :: x_mod_8 :: x_mod_9 :: x_mod_10 :: x_mod_11 :: x_mod_12 :: x_mod_13 :: x_mod_14 :: x_mod_15 :: x_mod_16 :: x_mod_17 :: x_mod_18 :: x_mod_19 :: .ref a_mog :: x_mod_21 :: x_mod_22 :: x_mod_23 :: x_mod_24 :: x_mod_25 :: x_mod_26 :: x_mod_27 :: x_mod_28 :: x_mod_29 :: x_mod_30 :: x_mod_31 :: x_mod_32 :: []))) (g_kne f0_mod f0_mog (Nat.ne_of_beq_eq_false rfl)) (f0_mog)
          refine g_dald hx hb hE hP _ f_mog (by omega) (by decide) dX7_core_103 ?_
          refine g_dv (v' := mog (t * 4 + (1 + 1 + j))) (congrArg mog (by omega)) ?_
          refine lv_aload_n hx hb dX7_core_104 rfl (lv_at hl 0 rfl) ?_
          refine va_get (D := D) (ci := 8) (v := .ref a_mog) (C := RX7) (T := TX7) (N := 33) hx hb hts in_RX7 hown hE.1 (gv1 hP f_mod) 0 rfl rfl 20 (by decide) (hts (.fieldLink RX7 57 "BasketryOfficeModel" "ofGroup" "[D") (by decide +kernel)) (fun _ h9 => h9) rfl dX7_core_105 ?_
          refine lv_iconst (v := nI 4) hx hb dX7_core_108 (by decide) ?_
          refine lv_iload_n hx hb dX7_core_109 rfl (lv_at hl 1 rfl) ?_
          refine g_imul hx hb dX7_core_110 (pk_mul _ _) ?_
          refine lv_iload_n hx hb dX7_core_111 rfl (lv_at hl 3 rfl) ?_
          refine g_iadd hx hb dX7_core_112 (nI_add _ _) ?_
          refine g_dald hx hb hE hP _ f_mog (by omega) (by decide) dX7_core_113 ?_
          refine g_dv (v' := mog (t * 4 + (lsF mog t (gtF mog t 3) 1 (j)))) (congrArg mog (by omega)) ?_
          refine g_dcmpg_ge (tgt := 122) hx hb dX7_core_114 dX7_core_115 (by decide) (fun c_114 => ?_) (fun c_114 => ?_)
          · refine lv_iconst (v := nI 0) hx hb dX7_core_122 (by decide) ?_
            refine lv_istore (lv' := [(5, .int (nI (0))), (0, .ref a_mod), (1, .int (nI (t))), (2, .int (nI (gtF mog t (3)))), (3, .int (nI (lsF mog t (gtF mog t 3) 1 (j)))), (4, .int (nI (1 + 1 + j)))]) hx hb dX7_core_123 hl (by decide) rfl (fun ls hl => ?_)
            refine lv_iload hx hb dX7_core_125 (lv_at hl 0 rfl) ?_
            refine g_if_eq (tgt := 135) hx hb (by omega) dX7_core_127 (by decide) (fun c_127 => ?_) (fun c_127 => absurd c_127 (by omega))
            refine lv_iload_n hx hb dX7_core_135 rfl (lv_at hl 4 rfl) ?_
            refine lv_istore_n (lv' := [(3, .int (nI (lsF mog t (gtF mog t 3) 1 (j)))), (5, .int (nI (0))), (0, .ref a_mod), (1, .int (nI (t))), (2, .int (nI (gtF mog t (3)))), (4, .int (nI (1 + 1 + j)))]) hx hb dX7_core_136 rfl hl (by decide) rfl (fun ls hl => ?_)
            refine lv_iinc (v := nI (1 + 1 + j + 1)) (lv' := [(4, .int (nI (1 + 1 + j + 1))), (3, .int (nI (lsF mog t (gtF mog t 3) 1 (j)))), (5, .int (nI (0))), (0, .ref a_mod), (1, .int (nI (t))), (2, .int (nI (gtF mog t (3))))]) hx hb dX7_core_137 hl (k := 5) rfl (nI_add _ 1) (by decide) rfl (fun ls hl => ?_)
            refine lv_goto (tgt := 76) hx hb dX7_core_140 (by decide) ?_
            have hP : gvP D vwCl (ws.set p_mod (a_mod, .inr (8, .int (nI (0)) :: .int (nI (n)) :: x_mod_2 :: x_mod_3 :: x_mod_4 :: .int (nI (nw)) :: x_mod_6 :: x_mod_7 :: x_mod_8 :: x_mod_9 :: x_mod_10 :: x_mod_11 :: x_mod_12 :: x_mod_13 :: x_mod_14 :: x_mod_15 :: x_mod_16 :: x_mod_17 :: x_mod_18 :: x_mod_19 :: .ref a_mog :: x_mod_21 :: x_mod_22 :: x_mod_23 :: x_mod_24 :: x_mod_25 :: x_mod_26 :: x_mod_27 :: x_mod_28 :: x_mod_29 :: x_mod_30 :: x_mod_31 :: x_mod_32 :: []))) _ := g_trP (rfl) hP
            have hD : gvD A (ws.set p_mod (a_mod, .inr (8, .int (nI (0)) :: .int (nI (n)) :: x_mod_2 :: x_mod_3 :: x_mod_4 :: .int (nI (nw)) :: x_mod_6 :: x_mod_7 :: x_mod_8 :: x_mod_9 :: x_mod_10 :: x_mod_11 :: x_mod_12 :: x_mod_13 :: x_mod_14 :: x_mod_15 :: x_mod_16 :: x_mod_17 :: x_mod_18 :: x_mod_19 :: .ref a_mog :: x_mod_21 :: x_mod_22 :: x_mod_23 :: x_mod_24 :: x_mod_25 :: x_mod_26 :: x_mod_27 :: x_mod_28 :: x_mod_29 :: x_mod_30 :: x_mod_31 :: x_mod_32 :: []))) := g_trD (rfl) hD
            exact ih_j H locs ls hP hD hS (lv_sub hl [3, 4, 5, 1, 0] (by rw [lsF, if_neg (fun z => c_114 z.2)]; rfl))
          · refine lv_iconst (v := nI 1) hx hb dX7_core_118 (by decide) ?_
            refine lv_goto (tgt := 123) hx hb dX7_core_119 (by decide) ?_
            refine lv_istore (lv' := [(5, .int (nI (1))), (0, .ref a_mod), (1, .int (nI (t))), (2, .int (nI (gtF mog t (3)))), (3, .int (nI (lsF mog t (gtF mog t 3) 1 (j)))), (4, .int (nI (1 + 1 + j)))]) hx hb dX7_core_123 hl (by decide) rfl (fun ls hl => ?_)
            refine lv_iload hx hb dX7_core_125 (lv_at hl 0 rfl) ?_
            refine g_if_eq (tgt := 135) hx hb (by omega) dX7_core_127 (by decide) (fun c_127 => absurd c_127 (by omega)) (fun c_127 => ?_)
            refine lv_iload hx hb dX7_core_130 (lv_at hl 5 rfl) ?_
            refine lv_goto (tgt := 136) hx hb dX7_core_132 (by decide) ?_
            refine lv_istore_n (lv' := [(3, .int (nI (1 + 1 + j))), (5, .int (nI (1))), (0, .ref a_mod), (1, .int (nI (t))), (2, .int (nI (gtF mog t (3)))), (4, .int (nI (1 + 1 + j)))]) hx hb dX7_core_136 rfl hl (by decide) rfl (fun ls hl => ?_)
            refine lv_iinc (v := nI (1 + 1 + j + 1)) (lv' := [(4, .int (nI (1 + 1 + j + 1))), (3, .int (nI (1 + 1 + j))), (5, .int (nI (1))), (0, .ref a_mod), (1, .int (nI (t))), (2, .int (nI (gtF mog t (3))))]) hx hb dX7_core_137 hl (k := 5) rfl (nI_add _ 1) (by decide) rfl (fun ls hl => ?_)
            refine lv_goto (tgt := 76) hx hb dX7_core_140 (by decide) ?_
            have hP : gvP D vwCl (ws.set p_mod (a_mod, .inr (8, .int (nI (0)) :: .int (nI (n)) :: x_mod_2 :: x_mod_3 :: x_mod_4 :: .int (nI (nw)) :: x_mod_6 :: x_mod_7 :: x_mod_8 :: x_mod_9 :: x_mod_10 :: x_mod_11 :: x_mod_12 :: x_mod_13 :: x_mod_14 :: x_mod_15 :: x_mod_16 :: x_mod_17 :: x_mod_18 :: x_mod_19 :: .ref a_mog :: x_mod_21 :: x_mod_22 :: x_mod_23 :: x_mod_24 :: x_mod_25 :: x_mod_26 :: x_mod_27 :: x_mod_28 :: x_mod_29 :: x_mod_30 :: x_mod_31 :: x_mod_32 :: []))) _ := g_trP (rfl) hP
            have hD : gvD A (ws.set p_mod (a_mod, .inr (8, .int (nI (0)) :: .int (nI (n)) :: x_mod_2 :: x_mod_3 :: x_mod_4 :: .int (nI (nw)) :: x_mod_6 :: x_mod_7 :: x_mod_8 :: x_mod_9 :: x_mod_10 :: x_mod_11 :: x_mod_12 :: x_mod_13 :: x_mod_14 :: x_mod_15 :: x_mod_16 :: x_mod_17 :: x_mod_18 :: x_mod_19 :: .ref a_mog :: x_mod_21 :: x_mod_22 :: x_mod_23 :: x_mod_24 :: x_mod_25 :: x_mod_26 :: x_mod_27 :: x_mod_28 :: x_mod_29 :: x_mod_30 :: x_mod_31 :: x_mod_32 :: []))) := g_trD (rfl) hD
            exact ih_j H locs ls hP hD hS (lv_sub hl [3, 4, 5, 1, 0] (by rw [lsF, if_pos ⟨c_85, c_114⟩]; rfl))
    · refine lv_iconst (v := (-1)) hx hb dX7_core_71 (by decide) ?_
      refine lv_istore_n (lv' := [(3, .int (-1)), (0, .ref a_mod), (1, .int (nI (t))), (2, .int (nI (gtF mog t (3))))]) hx hb dX7_core_72 rfl hl (by decide) rfl (fun ls hl => ?_)
      refine lv_iconst (v := nI 0) hx hb dX7_core_73 (by decide) ?_
      refine lv_istore (lv' := [(4, .int (nI (0))), (3, .int (-1)), (0, .ref a_mod), (1, .int (nI (t))), (2, .int (nI (gtF mog t (3))))]) hx hb dX7_core_74 hl (by decide) rfl (fun ls hl => ?_)
      refine lv_iload hx hb dX7_core_76 (lv_at hl 0 rfl) ?_
      refine lv_iconst (v := nI 4) hx hb dX7_core_78 (by decide) ?_
      refine g_icmp_ge (tgt := 143) hx hb (by omega) (by omega) dX7_core_79 (by decide) (fun c_79 => absurd c_79 (by omega)) (fun c_79 => ?_)
      refine lv_iload hx hb dX7_core_82 (lv_at hl 0 rfl) ?_
      refine lv_iload_n hx hb dX7_core_84 rfl (lv_at hl 4 rfl) ?_
      refine g_icmp_eq (tgt := 122) hx hb (by omega) (by omega) dX7_core_85 (by decide) (fun c_85 => absurd c_85 (by omega)) (fun c_85 => ?_)
      refine lv_iload_n hx hb dX7_core_88 rfl (lv_at hl 1 rfl) ?_
      refine lv_iconst (v := (-1)) hx hb dX7_core_89 (by decide) ?_
      refine lv_icmp_eq (tgt := 118) hx hb dX7_core_90 (by decide) (fun c_90 => ?_) (fun c_90 => absurd c_90 (fun z => z rfl))
      refine lv_iconst (v := nI 1) hx hb dX7_core_118 (by decide) ?_
      refine lv_goto (tgt := 123) hx hb dX7_core_119 (by decide) ?_
      refine lv_istore (lv' := [(5, .int (nI (1))), (4, .int (nI (0))), (3, .int (-1)), (0, .ref a_mod), (1, .int (nI (t))), (2, .int (nI (gtF mog t (3))))]) hx hb dX7_core_123 hl (by decide) rfl (fun ls hl => ?_)
      refine lv_iload hx hb dX7_core_125 (lv_at hl 0 rfl) ?_
      refine g_if_eq (tgt := 135) hx hb (by omega) dX7_core_127 (by decide) (fun c_127 => absurd c_127 (by omega)) (fun c_127 => ?_)
      refine lv_iload hx hb dX7_core_130 (lv_at hl 1 rfl) ?_
      refine lv_goto (tgt := 136) hx hb dX7_core_132 (by decide) ?_
      refine lv_istore_n (lv' := [(3, .int (nI (0))), (5, .int (nI (1))), (4, .int (nI (0))), (0, .ref a_mod), (1, .int (nI (t))), (2, .int (nI (gtF mog t (3))))]) hx hb dX7_core_136 rfl hl (by decide) rfl (fun ls hl => ?_)
      refine lv_iinc (v := nI (0 + 1)) (lv' := [(4, .int (nI (0 + 1))), (3, .int (nI (0))), (5, .int (nI (1))), (0, .ref a_mod), (1, .int (nI (t))), (2, .int (nI (gtF mog t (3))))]) hx hb dX7_core_137 hl (k := 2) rfl (nI_add _ 1) (by decide) rfl (fun ls hl => ?_)
      refine lv_goto (tgt := 76) hx hb dX7_core_140 (by decide) ?_
      have hP : gvP D vwCl (ws.set p_mod (a_mod, .inr (8, .int (nI (0)) :: .int (nI (n)) :: x_mod_2 :: x_mod_3 :: x_mod_4 :: .int (nI (nw)) :: x_mod_6 :: x_mod_7 :: x_mod_8 :: x_mod_9 :: x_mod_10 :: x_mod_11 :: x_mod_12 :: x_mod_13 :: x_mod_14 :: x_mod_15 :: x_mod_16 :: x_mod_17 :: x_mod_18 :: x_mod_19 :: .ref a_mog :: x_mod_21 :: x_mod_22 :: x_mod_23 :: x_mod_24 :: x_mod_25 :: x_mod_26 :: x_mod_27 :: x_mod_28 :: x_mod_29 :: x_mod_30 :: x_mod_31 :: x_mod_32 :: []))) _ := g_trP (rfl) hP
      have hD : gvD A (ws.set p_mod (a_mod, .inr (8, .int (nI (0)) :: .int (nI (n)) :: x_mod_2 :: x_mod_3 :: x_mod_4 :: .int (nI (nw)) :: x_mod_6 :: x_mod_7 :: x_mod_8 :: x_mod_9 :: x_mod_10 :: x_mod_11 :: x_mod_12 :: x_mod_13 :: x_mod_14 :: x_mod_15 :: x_mod_16 :: x_mod_17 :: x_mod_18 :: x_mod_19 :: .ref a_mog :: x_mod_21 :: x_mod_22 :: x_mod_23 :: x_mod_24 :: x_mod_25 :: x_mod_26 :: x_mod_27 :: x_mod_28 :: x_mod_29 :: x_mod_30 :: x_mod_31 :: x_mod_32 :: []))) := g_trD (rfl) hD
      refine g_for (fun j => (ws.set p_mod (a_mod, .inr (8, .int (nI (0)) :: .int (nI (n)) :: x_mod_2 :: x_mod_3 :: x_mod_4 :: .int (nI (nw)) :: x_mod_6 :: x_mod_7 :: x_mod_8 :: x_mod_9 :: x_mod_10 :: x_mod_11 :: x_mod_12 :: x_mod_13 :: x_mod_14 :: x_mod_15 :: x_mod_16 :: x_mod_17 :: x_mod_18 :: x_mod_19 :: .ref a_mog :: x_mod_21 :: x_mod_22 :: x_mod_23 :: x_mod_24 :: x_mod_25 :: x_mod_26 :: x_mod_27 :: x_mod_28 :: x_mod_29 :: x_mod_30 :: x_mod_31 :: x_mod_32 :: [])))) (fun j => [(0, .ref a_mod), (1, .int (nI (t))), (2, .int (nI (gtF mog t (3)))), (3, .int (nI (lsF mog t (gtF mog t 3) 0 (j)))), (4, .int (nI (0 + 1 + j)))]) (3 - 0) (0) (by omega) ?_ ?_ hP hD hS (lv_sub hl [3, 4, 5, 1, 0] rfl)
      · intro H locs ls hP hD hS hl
        have hP : gvP D vwCl (ws.set p_mod (a_mod, .inr (8, .int (nI (0)) :: .int (nI (n)) :: x_mod_2 :: x_mod_3 :: x_mod_4 :: .int (nI (nw)) :: x_mod_6 :: x_mod_7 :: x_mod_8 :: x_mod_9 :: x_mod_10 :: x_mod_11 :: x_mod_12 :: x_mod_13 :: x_mod_14 :: x_mod_15 :: x_mod_16 :: x_mod_17 :: x_mod_18 :: x_mod_19 :: .ref a_mog :: x_mod_21 :: x_mod_22 :: x_mod_23 :: x_mod_24 :: x_mod_25 :: x_mod_26 :: x_mod_27 :: x_mod_28 :: x_mod_29 :: x_mod_30 :: x_mod_31 :: x_mod_32 :: []))) H := hP
        have hD : gvD A (ws.set p_mod (a_mod, .inr (8, .int (nI (0)) :: .int (nI (n)) :: x_mod_2 :: x_mod_3 :: x_mod_4 :: .int (nI (nw)) :: x_mod_6 :: x_mod_7 :: x_mod_8 :: x_mod_9 :: x_mod_10 :: x_mod_11 :: x_mod_12 :: x_mod_13 :: x_mod_14 :: x_mod_15 :: x_mod_16 :: x_mod_17 :: x_mod_18 :: x_mod_19 :: .ref a_mog :: x_mod_21 :: x_mod_22 :: x_mod_23 :: x_mod_24 :: x_mod_25 :: x_mod_26 :: x_mod_27 :: x_mod_28 :: x_mod_29 :: x_mod_30 :: x_mod_31 :: x_mod_32 :: []))) := hD
        have hl : lv_has ls 7 [(0, .ref a_mod), (1, .int (nI (t))), (2, .int (nI (gtF mog t (3)))), (3, .int (nI (lsF mog t (gtF mog t 3) 0 (3 - 0)))), (4, .int (nI (0 + 1 + 3 - 0)))] := hl
        have hls := lsF_le mog t (gtF mog t 3) 0 (3 - 0)
        refine lv_iload hx hb dX7_core_76 (lv_at hl 4 rfl) ?_
        refine lv_iconst (v := nI 4) hx hb dX7_core_78 (by decide) ?_
        refine g_icmp_ge (tgt := 143) hx hb (by omega) (by omega) dX7_core_79 (by decide) (fun c_79 => ?_) (fun c_79 => absurd c_79 (by omega))
        refine g_dconst0 hx hb dX7_core_143 ?_
        refine lv_dstore (lv' := [(4, .double 0), (0, .ref a_mod), (1, .int (nI (t))), (2, .int (nI (gtF mog t (3)))), (3, .int (nI (lsF mog t (gtF mog t 3) 0 (3 - 0))))]) hx hb dX7_core_144 hl (by decide) rfl (fun ls hl => ?_)
        refine lv_iconst (v := nI 0) hx hb dX7_core_146 (by decide) ?_
        refine lv_istore (lv' := [(6, .int (nI (0))), (4, .double 0), (0, .ref a_mod), (1, .int (nI (t))), (2, .int (nI (gtF mog t (3)))), (3, .int (nI (lsF mog t (gtF mog t 3) 0 (3 - 0))))]) hx hb dX7_core_147 hl (by decide) rfl (fun ls hl => ?_)
        have hP : gvP D vwCl (ws.set p_mod (a_mod, .inr (8, .int (nI (0)) :: .int (nI (n)) :: x_mod_2 :: x_mod_3 :: x_mod_4 :: .int (nI (nw)) :: x_mod_6 :: x_mod_7 :: x_mod_8 :: x_mod_9 :: x_mod_10 :: x_mod_11 :: x_mod_12 :: x_mod_13 :: x_mod_14 :: x_mod_15 :: x_mod_16 :: x_mod_17 :: x_mod_18 :: x_mod_19 :: .ref a_mog :: x_mod_21 :: x_mod_22 :: x_mod_23 :: x_mod_24 :: x_mod_25 :: x_mod_26 :: x_mod_27 :: x_mod_28 :: x_mod_29 :: x_mod_30 :: x_mod_31 :: x_mod_32 :: []))) _ := g_trP (rfl) hP
        have hD : gvD A (ws.set p_mod (a_mod, .inr (8, .int (nI (0)) :: .int (nI (n)) :: x_mod_2 :: x_mod_3 :: x_mod_4 :: .int (nI (nw)) :: x_mod_6 :: x_mod_7 :: x_mod_8 :: x_mod_9 :: x_mod_10 :: x_mod_11 :: x_mod_12 :: x_mod_13 :: x_mod_14 :: x_mod_15 :: x_mod_16 :: x_mod_17 :: x_mod_18 :: x_mod_19 :: .ref a_mog :: x_mod_21 :: x_mod_22 :: x_mod_23 :: x_mod_24 :: x_mod_25 :: x_mod_26 :: x_mod_27 :: x_mod_28 :: x_mod_29 :: x_mod_30 :: x_mod_31 :: x_mod_32 :: []))) := g_trD (rfl) hD
        refine g_for (fun j => (ws.set p_mod (a_mod, .inr (8, .int (nI (0)) :: .int (nI (n)) :: x_mod_2 :: x_mod_3 :: x_mod_4 :: .int (nI (nw)) :: x_mod_6 :: x_mod_7 :: x_mod_8 :: x_mod_9 :: x_mod_10 :: x_mod_11 :: x_mod_12 :: x_mod_13 :: x_mod_14 :: x_mod_15 :: x_mod_16 :: x_mod_17 :: x_mod_18 :: x_mod_19 :: .ref a_mog :: x_mod_21 :: x_mod_22 :: x_mod_23 :: x_mod_24 :: x_mod_25 :: x_mod_26 :: x_mod_27 :: x_mod_28 :: x_mod_29 :: x_mod_30 :: x_mod_31 :: x_mod_32 :: [])))) (fun j => [(0, .ref a_mod), (1, .int (nI (t))), (2, .int (nI (gtF mog t (3)))), (3, .int (nI (lsF mog t (gtF mog t 3) 0 (3 - 0)))), (4, .double (smF mog t (gtF mog t 3) (lsF mog t (gtF mog t 3) 0 (3 - 0)) (j))), (6, .int (nI (j)))]) (4) (0) (by omega) ?_ ?_ hP hD hS (lv_sub hl [2, 3, 4, 5, 1, 0] rfl)
        · intro H locs ls hP hD hS hl
          have hP : gvP D vwCl (ws.set p_mod (a_mod, .inr (8, .int (nI (0)) :: .int (nI (n)) :: x_mod_2 :: x_mod_3 :: x_mod_4 :: .int (nI (nw)) :: x_mod_6 :: x_mod_7 :: x_mod_8 :: x_mod_9 :: x_mod_10 :: x_mod_11 :: x_mod_12 :: x_mod_13 :: x_mod_14 :: x_mod_15 :: x_mod_16 :: x_mod_17 :: x_mod_18 :: x_mod_19 :: .ref a_mog :: x_mod_21 :: x_mod_22 :: x_mod_23 :: x_mod_24 :: x_mod_25 :: x_mod_26 :: x_mod_27 :: x_mod_28 :: x_mod_29 :: x_mod_30 :: x_mod_31 :: x_mod_32 :: []))) H := hP
          have hD : gvD A (ws.set p_mod (a_mod, .inr (8, .int (nI (0)) :: .int (nI (n)) :: x_mod_2 :: x_mod_3 :: x_mod_4 :: .int (nI (nw)) :: x_mod_6 :: x_mod_7 :: x_mod_8 :: x_mod_9 :: x_mod_10 :: x_mod_11 :: x_mod_12 :: x_mod_13 :: x_mod_14 :: x_mod_15 :: x_mod_16 :: x_mod_17 :: x_mod_18 :: x_mod_19 :: .ref a_mog :: x_mod_21 :: x_mod_22 :: x_mod_23 :: x_mod_24 :: x_mod_25 :: x_mod_26 :: x_mod_27 :: x_mod_28 :: x_mod_29 :: x_mod_30 :: x_mod_31 :: x_mod_32 :: []))) := hD
          have hl : lv_has ls 7 [(0, .ref a_mod), (1, .int (nI (t))), (2, .int (nI (gtF mog t (3)))), (3, .int (nI (lsF mog t (gtF mog t 3) 0 (3 - 0)))), (4, .double (smF mog t (gtF mog t 3) (lsF mog t (gtF mog t 3) 0 (3 - 0)) (4))), (6, .int (nI (4)))] := hl
          refine lv_iload hx hb dX7_core_149 (lv_at hl 5 rfl) ?_
          refine lv_iconst (v := nI 4) hx hb dX7_core_151 (by decide) ?_
          refine g_icmp_ge (tgt := 193) hx hb (by omega) (by omega) dX7_core_152 (by decide) (fun c_152 => ?_) (fun c_152 => absurd c_152 (by omega))
          refine lv_dload hx hb dX7_core_193 (lv_at hl 4 rfl) ?_
          refine lv_ldc2d (v := 4611686018427387904) hx hb hown (hts (.constantDouble RX7 200 (4611686018427387904)) (by decide +kernel)) dX7_core_195 ?_
          refine lv_ddiv hx hb dX7_core_198 (hnn _ _ 0 (by decide)).2 ?_
          refine g_dret hx hb hr hlocks () dX7_core_199 hS hP hD ?_
          rw [sCore, if_neg (by omega : ¬ gtF mog t 3 = 0)]
          rfl
        · intro j hj_j ih_j H locs ls hP hD hS hl
          have hP : gvP D vwCl (ws.set p_mod (a_mod, .inr (8, .int (nI (0)) :: .int (nI (n)) :: x_mod_2 :: x_mod_3 :: x_mod_4 :: .int (nI (nw)) :: x_mod_6 :: x_mod_7 :: x_mod_8 :: x_mod_9 :: x_mod_10 :: x_mod_11 :: x_mod_12 :: x_mod_13 :: x_mod_14 :: x_mod_15 :: x_mod_16 :: x_mod_17 :: x_mod_18 :: x_mod_19 :: .ref a_mog :: x_mod_21 :: x_mod_22 :: x_mod_23 :: x_mod_24 :: x_mod_25 :: x_mod_26 :: x_mod_27 :: x_mod_28 :: x_mod_29 :: x_mod_30 :: x_mod_31 :: x_mod_32 :: []))) H := hP
          have hD : gvD A (ws.set p_mod (a_mod, .inr (8, .int (nI (0)) :: .int (nI (n)) :: x_mod_2 :: x_mod_3 :: x_mod_4 :: .int (nI (nw)) :: x_mod_6 :: x_mod_7 :: x_mod_8 :: x_mod_9 :: x_mod_10 :: x_mod_11 :: x_mod_12 :: x_mod_13 :: x_mod_14 :: x_mod_15 :: x_mod_16 :: x_mod_17 :: x_mod_18 :: x_mod_19 :: .ref a_mog :: x_mod_21 :: x_mod_22 :: x_mod_23 :: x_mod_24 :: x_mod_25 :: x_mod_26 :: x_mod_27 :: x_mod_28 :: x_mod_29 :: x_mod_30 :: x_mod_31 :: x_mod_32 :: []))) := hD
          have hl : lv_has ls 7 [(0, .ref a_mod), (1, .int (nI (t))), (2, .int (nI (gtF mog t (3)))), (3, .int (nI (lsF mog t (gtF mog t 3) 0 (3 - 0)))), (4, .double (smF mog t (gtF mog t 3) (lsF mog t (gtF mog t 3) 0 (3 - 0)) (j))), (6, .int (nI (j)))] := hl
          refine lv_iload hx hb dX7_core_149 (lv_at hl 5 rfl) ?_
          refine lv_iconst (v := nI 4) hx hb dX7_core_151 (by decide) ?_
          refine g_icmp_ge (tgt := 193) hx hb (by omega) (by omega) dX7_core_152 (by decide) (fun c_152 => absurd c_152 (by omega)) (fun c_152 => ?_)
          refine lv_dload hx hb dX7_core_155 (lv_at hl 4 rfl) ?_
          refine lv_iload hx hb dX7_core_157 (lv_at hl 5 rfl) ?_
          refine lv_iload_n hx hb dX7_core_159 rfl (lv_at hl 2 rfl) ?_
          refine g_icmp_eq (tgt := 169) hx hb (by omega) (by omega) dX7_core_160 (by decide) (fun c_160 => ?_) (fun c_160 => ?_)
          · refine g_dconst0 hx hb dX7_core_169 ?_
            refine lv_goto (tgt := 184) hx hb dX7_core_170 (by decide) ?_
            skip
            refine lv_dadd hx hb dX7_core_184 (hz _ _ j hj_j).1 ?_
            refine g_dv (v' := smF mog t (gtF mog t 3) (lsF mog t (gtF mog t 3) 0 (3 - 0)) (j + 1)) ((hz _ _ j hj_j).2.trans (by rw [smF, if_neg (fun z => z.1 c_160)])) ?_
            refine lv_dstore (lv' := [(4, .double (smF mog t (gtF mog t 3) (lsF mog t (gtF mog t 3) 0 (3 - 0)) (j + 1))), (0, .ref a_mod), (1, .int (nI (t))), (2, .int (nI (gtF mog t (3)))), (3, .int (nI (lsF mog t (gtF mog t 3) 0 (3 - 0)))), (6, .int (nI (j)))]) hx hb dX7_core_185 hl (by decide) rfl (fun ls hl => ?_)
            refine lv_iinc (v := nI (j + 1)) (lv' := [(6, .int (nI (j + 1))), (4, .double (smF mog t (gtF mog t 3) (lsF mog t (gtF mog t 3) 0 (3 - 0)) (j + 1))), (0, .ref a_mod), (1, .int (nI (t))), (2, .int (nI (gtF mog t (3)))), (3, .int (nI (lsF mog t (gtF mog t 3) 0 (3 - 0))))]) hx hb dX7_core_187 hl (k := 5) rfl (nI_add _ 1) (by decide) rfl (fun ls hl => ?_)
            refine lv_goto (tgt := 149) hx hb dX7_core_190 (by decide) ?_
            have hP : gvP D vwCl (ws.set p_mod (a_mod, .inr (8, .int (nI (0)) :: .int (nI (n)) :: x_mod_2 :: x_mod_3 :: x_mod_4 :: .int (nI (nw)) :: x_mod_6 :: x_mod_7 :: x_mod_8 :: x_mod_9 :: x_mod_10 :: x_mod_11 :: x_mod_12 :: x_mod_13 :: x_mod_14 :: x_mod_15 :: x_mod_16 :: x_mod_17 :: x_mod_18 :: x_mod_19 :: .ref a_mog :: x_mod_21 :: x_mod_22 :: x_mod_23 :: x_mod_24 :: x_mod_25 :: x_mod_26 :: x_mod_27 :: x_mod_28 :: x_mod_29 :: x_mod_30 :: x_mod_31 :: x_mod_32 :: []))) _ := g_trP (rfl) hP
            have hD : gvD A (ws.set p_mod (a_mod, .inr (8, .int (nI (0)) :: .int (nI (n)) :: x_mod_2 :: x_mod_3 :: x_mod_4 :: .int (nI (nw)) :: x_mod_6 :: x_mod_7 :: x_mod_8 :: x_mod_9 :: x_mod_10 :: x_mod_11 :: x_mod_12 :: x_mod_13 :: x_mod_14 :: x_mod_15 :: x_mod_16 :: x_mod_17 :: x_mod_18 :: x_mod_19 :: .ref a_mog :: x_mod_21 :: x_mod_22 :: x_mod_23 :: x_mod_24 :: x_mod_25 :: x_mod_26 :: x_mod_27 :: x_mod_28 :: x_mod_29 :: x_mod_30 :: x_mod_31 :: x_mod_32 :: []))) := g_trD (rfl) hD
            exact ih_j H locs ls hP hD hS (lv_sub hl [2, 3, 4, 5, 1, 0] rfl)
          · refine lv_iload hx hb dX7_core_163 (lv_at hl 5 rfl) ?_
            refine lv_iload_n hx hb dX7_core_165 rfl (lv_at hl 3 rfl) ?_
            refine g_icmp_ne (tgt := 173) hx hb (by omega) (by omega) dX7_core_166 (by decide) (fun c_166 => ?_) (fun c_166 => ?_)
            · refine lv_aload_n hx hb dX7_core_173 rfl (lv_at hl 0 rfl) ?_
              have f_mod := g_eq (x := (a_mod, .inr (8, .int (nI (0)) :: .int (nI (n)) :: x_mod_2 :: x_mod_3 :: x_mod_4 :: .int (nI (nw)) :: x_mod_6 :: x_mod_7 :: x_mod_8 :: x_mod_9 :: x_mod_10 :: x_mod_11 :: x_mod_12 :: x_mod_13 :: x_mod_14 :: x_mod_15 :: x_mod_16 :: x_mod_17 :: x_mod_18 :: x_mod_19 :: .ref a_mog :: x_mod_21 :: x_mod_22 :: x_mod_23 :: x_mod_24 :: x_mod_25 :: x_mod_26 :: x_mod_27 :: x_mod_28 :: x_mod_29 :: x_mod_30 :: x_mod_31 :: x_mod_32 :: []))) (f0_mod)
              refine va_get (D := D) (ci := 8) (v := .ref a_mog) (C := RX7) (T := TX7) (N := 33) hx hb hts in_RX7 hown hE.1 (gv1 hP f_mod) 0 rfl rfl 20 (by decide) (hts (.fieldLink RX7 57 "BasketryOfficeModel" "ofGroup" "[D") (by decide +kernel)) (fun _ h9 => h9) rfl dX7_core_174 ?_
              refine lv_iconst (v := nI 4) hx hb dX7_core_177 (by decide) ?_
              refine lv_iload_n hx hb dX7_core_178 rfl (lv_at hl 1 rfl) ?_
              refine g_imul hx hb dX7_core_179 (pk_mul _ _) ?_
              refine lv_iload hx hb dX7_core_180 (lv_at hl 5 rfl) ?_
              refine g_iadd hx hb dX7_core_182 (nI_add _ _) ?_
              have f_mog := g_ne (x := (a_mod, .inr (8, .int (nI (0)) :: .int (nI (n)) :: x_mod_2 :: x_mod_3 :: x_mod_4 :: .int (nI (nw)) :: x_mod_6 :: x_mod_7 :: x_mod_8 :: x_mod_9 :: x_mod_10 :: x_mod_11 :: x_mod_12 :: x_mod_13 :: x_mod_14 :: x_mod_15 :: x_mod_16 :: x_mod_17 :: x_mod_18 :: x_mod_19 :: .ref a_mog :: x_mod_21 :: x_mod_22 :: x_mod_23 :: x_mod_24 :: x_mod_25 :: x_mod_26 :: x_mod_27 :: x_mod_28 :: x_mod_29 :: x_mod_30 :: x_mod_31 :: x_mod_32 :: []))) (g_kne f0_mod f0_mog (Nat.ne_of_beq_eq_false rfl)) (f0_mog)
              refine g_dald hx hb hE hP _ f_mog (by omega) (by decide) dX7_core_183 ?_
              refine g_dv (v' := mog (t * 4 + (j))) (congrArg mog (by omega)) ?_
              refine lv_dadd hx hb dX7_core_184 (hnn _ _ j hj_j).1 ?_
              refine g_dv (v' := smF mog t (gtF mog t 3) (lsF mog t (gtF mog t 3) 0 (3 - 0)) (j + 1)) (by rw [smF, if_pos ⟨c_160, c_166⟩]) ?_
              refine lv_dstore (lv' := [(4, .double (smF mog t (gtF mog t 3) (lsF mog t (gtF mog t 3) 0 (3 - 0)) (j + 1))), (0, .ref a_mod), (1, .int (nI (t))), (2, .int (nI (gtF mog t (3)))), (3, .int (nI (lsF mog t (gtF mog t 3) 0 (3 - 0)))), (6, .int (nI (j)))]) hx hb dX7_core_185 hl (by decide) rfl (fun ls hl => ?_)
              refine lv_iinc (v := nI (j + 1)) (lv' := [(6, .int (nI (j + 1))), (4, .double (smF mog t (gtF mog t 3) (lsF mog t (gtF mog t 3) 0 (3 - 0)) (j + 1))), (0, .ref a_mod), (1, .int (nI (t))), (2, .int (nI (gtF mog t (3)))), (3, .int (nI (lsF mog t (gtF mog t 3) 0 (3 - 0))))]) hx hb dX7_core_187 hl (k := 5) rfl (nI_add _ 1) (by decide) rfl (fun ls hl => ?_)
              refine lv_goto (tgt := 149) hx hb dX7_core_190 (by decide) ?_
              have hP : gvP D vwCl (ws.set p_mod (a_mod, .inr (8, .int (nI (0)) :: .int (nI (n)) :: x_mod_2 :: x_mod_3 :: x_mod_4 :: .int (nI (nw)) :: x_mod_6 :: x_mod_7 :: x_mod_8 :: x_mod_9 :: x_mod_10 :: x_mod_11 :: x_mod_12 :: x_mod_13 :: x_mod_14 :: x_mod_15 :: x_mod_16 :: x_mod_17 :: x_mod_18 :: x_mod_19 :: .ref a_mog :: x_mod_21 :: x_mod_22 :: x_mod_23 :: x_mod_24 :: x_mod_25 :: x_mod_26 :: x_mod_27 :: x_mod_28 :: x_mod_29 :: x_mod_30 :: x_mod_31 :: x_mod_32 :: []))) _ := g_trP (rfl) hP
              have hD : gvD A (ws.set p_mod (a_mod, .inr (8, .int (nI (0)) :: .int (nI (n)) :: x_mod_2 :: x_mod_3 :: x_mod_4 :: .int (nI (nw)) :: x_mod_6 :: x_mod_7 :: x_mod_8 :: x_mod_9 :: x_mod_10 :: x_mod_11 :: x_mod_12 :: x_mod_13 :: x_mod_14 :: x_mod_15 :: x_mod_16 :: x_mod_17 :: x_mod_18 :: x_mod_19 :: .ref a_mog :: x_mod_21 :: x_mod_22 :: x_mod_23 :: x_mod_24 :: x_mod_25 :: x_mod_26 :: x_mod_27 :: x_mod_28 :: x_mod_29 :: x_mod_30 :: x_mod_31 :: x_mod_32 :: []))) := g_trD (rfl) hD
              exact ih_j H locs ls hP hD hS (lv_sub hl [2, 3, 4, 5, 1, 0] rfl)
            · refine g_dconst0 hx hb dX7_core_169 ?_
              refine lv_goto (tgt := 184) hx hb dX7_core_170 (by decide) ?_
              skip
              refine lv_dadd hx hb dX7_core_184 (hz _ _ j hj_j).1 ?_
              refine g_dv (v' := smF mog t (gtF mog t 3) (lsF mog t (gtF mog t 3) 0 (3 - 0)) (j + 1)) ((hz _ _ j hj_j).2.trans (by rw [smF, if_neg (fun z => z.2 c_166)])) ?_
              refine lv_dstore (lv' := [(4, .double (smF mog t (gtF mog t 3) (lsF mog t (gtF mog t 3) 0 (3 - 0)) (j + 1))), (0, .ref a_mod), (1, .int (nI (t))), (2, .int (nI (gtF mog t (3)))), (3, .int (nI (lsF mog t (gtF mog t 3) 0 (3 - 0)))), (6, .int (nI (j)))]) hx hb dX7_core_185 hl (by decide) rfl (fun ls hl => ?_)
              refine lv_iinc (v := nI (j + 1)) (lv' := [(6, .int (nI (j + 1))), (4, .double (smF mog t (gtF mog t 3) (lsF mog t (gtF mog t 3) 0 (3 - 0)) (j + 1))), (0, .ref a_mod), (1, .int (nI (t))), (2, .int (nI (gtF mog t (3)))), (3, .int (nI (lsF mog t (gtF mog t 3) 0 (3 - 0))))]) hx hb dX7_core_187 hl (k := 5) rfl (nI_add _ 1) (by decide) rfl (fun ls hl => ?_)
              refine lv_goto (tgt := 149) hx hb dX7_core_190 (by decide) ?_
              have hP : gvP D vwCl (ws.set p_mod (a_mod, .inr (8, .int (nI (0)) :: .int (nI (n)) :: x_mod_2 :: x_mod_3 :: x_mod_4 :: .int (nI (nw)) :: x_mod_6 :: x_mod_7 :: x_mod_8 :: x_mod_9 :: x_mod_10 :: x_mod_11 :: x_mod_12 :: x_mod_13 :: x_mod_14 :: x_mod_15 :: x_mod_16 :: x_mod_17 :: x_mod_18 :: x_mod_19 :: .ref a_mog :: x_mod_21 :: x_mod_22 :: x_mod_23 :: x_mod_24 :: x_mod_25 :: x_mod_26 :: x_mod_27 :: x_mod_28 :: x_mod_29 :: x_mod_30 :: x_mod_31 :: x_mod_32 :: []))) _ := g_trP (rfl) hP
              have hD : gvD A (ws.set p_mod (a_mod, .inr (8, .int (nI (0)) :: .int (nI (n)) :: x_mod_2 :: x_mod_3 :: x_mod_4 :: .int (nI (nw)) :: x_mod_6 :: x_mod_7 :: x_mod_8 :: x_mod_9 :: x_mod_10 :: x_mod_11 :: x_mod_12 :: x_mod_13 :: x_mod_14 :: x_mod_15 :: x_mod_16 :: x_mod_17 :: x_mod_18 :: x_mod_19 :: .ref a_mog :: x_mod_21 :: x_mod_22 :: x_mod_23 :: x_mod_24 :: x_mod_25 :: x_mod_26 :: x_mod_27 :: x_mod_28 :: x_mod_29 :: x_mod_30 :: x_mod_31 :: x_mod_32 :: []))) := g_trD (rfl) hD
              exact ih_j H locs ls hP hD hS (lv_sub hl [2, 3, 4, 5, 1, 0] rfl)
      · intro j hj_j ih_j H locs ls hP hD hS hl
        have hP : gvP D vwCl (ws.set p_mod (a_mod, .inr (8, .int (nI (0)) :: .int (nI (n)) :: x_mod_2 :: x_mod_3 :: x_mod_4 :: .int (nI (nw)) :: x_mod_6 :: x_mod_7 :: x_mod_8 :: x_mod_9 :: x_mod_10 :: x_mod_11 :: x_mod_12 :: x_mod_13 :: x_mod_14 :: x_mod_15 :: x_mod_16 :: x_mod_17 :: x_mod_18 :: x_mod_19 :: .ref a_mog :: x_mod_21 :: x_mod_22 :: x_mod_23 :: x_mod_24 :: x_mod_25 :: x_mod_26 :: x_mod_27 :: x_mod_28 :: x_mod_29 :: x_mod_30 :: x_mod_31 :: x_mod_32 :: []))) H := hP
        have hD : gvD A (ws.set p_mod (a_mod, .inr (8, .int (nI (0)) :: .int (nI (n)) :: x_mod_2 :: x_mod_3 :: x_mod_4 :: .int (nI (nw)) :: x_mod_6 :: x_mod_7 :: x_mod_8 :: x_mod_9 :: x_mod_10 :: x_mod_11 :: x_mod_12 :: x_mod_13 :: x_mod_14 :: x_mod_15 :: x_mod_16 :: x_mod_17 :: x_mod_18 :: x_mod_19 :: .ref a_mog :: x_mod_21 :: x_mod_22 :: x_mod_23 :: x_mod_24 :: x_mod_25 :: x_mod_26 :: x_mod_27 :: x_mod_28 :: x_mod_29 :: x_mod_30 :: x_mod_31 :: x_mod_32 :: []))) := hD
        have hl : lv_has ls 7 [(0, .ref a_mod), (1, .int (nI (t))), (2, .int (nI (gtF mog t (3)))), (3, .int (nI (lsF mog t (gtF mog t 3) 0 (j)))), (4, .int (nI (0 + 1 + j)))] := hl
        have hls := lsF_le mog t (gtF mog t 3) 0 j
        refine lv_iload hx hb dX7_core_76 (lv_at hl 4 rfl) ?_
        refine lv_iconst (v := nI 4) hx hb dX7_core_78 (by decide) ?_
        refine g_icmp_ge (tgt := 143) hx hb (by omega) (by omega) dX7_core_79 (by decide) (fun c_79 => absurd c_79 (by omega)) (fun c_79 => ?_)
        refine lv_iload hx hb dX7_core_82 (lv_at hl 4 rfl) ?_
        refine lv_iload_n hx hb dX7_core_84 rfl (lv_at hl 2 rfl) ?_
        refine g_icmp_eq (tgt := 122) hx hb (by omega) (by omega) dX7_core_85 (by decide) (fun c_85 => ?_) (fun c_85 => ?_)
        · refine lv_iconst (v := nI 0) hx hb dX7_core_122 (by decide) ?_
          refine lv_istore (lv' := [(5, .int (nI (0))), (0, .ref a_mod), (1, .int (nI (t))), (2, .int (nI (gtF mog t (3)))), (3, .int (nI (lsF mog t (gtF mog t 3) 0 (j)))), (4, .int (nI (0 + 1 + j)))]) hx hb dX7_core_123 hl (by decide) rfl (fun ls hl => ?_)
          refine lv_iload hx hb dX7_core_125 (lv_at hl 0 rfl) ?_
          refine g_if_eq (tgt := 135) hx hb (by omega) dX7_core_127 (by decide) (fun c_127 => ?_) (fun c_127 => absurd c_127 (by omega))
          refine lv_iload_n hx hb dX7_core_135 rfl (lv_at hl 4 rfl) ?_
          refine lv_istore_n (lv' := [(3, .int (nI (lsF mog t (gtF mog t 3) 0 (j)))), (5, .int (nI (0))), (0, .ref a_mod), (1, .int (nI (t))), (2, .int (nI (gtF mog t (3)))), (4, .int (nI (0 + 1 + j)))]) hx hb dX7_core_136 rfl hl (by decide) rfl (fun ls hl => ?_)
          refine lv_iinc (v := nI (0 + 1 + j + 1)) (lv' := [(4, .int (nI (0 + 1 + j + 1))), (3, .int (nI (lsF mog t (gtF mog t 3) 0 (j)))), (5, .int (nI (0))), (0, .ref a_mod), (1, .int (nI (t))), (2, .int (nI (gtF mog t (3))))]) hx hb dX7_core_137 hl (k := 5) rfl (nI_add _ 1) (by decide) rfl (fun ls hl => ?_)
          refine lv_goto (tgt := 76) hx hb dX7_core_140 (by decide) ?_
          have hP : gvP D vwCl (ws.set p_mod (a_mod, .inr (8, .int (nI (0)) :: .int (nI (n)) :: x_mod_2 :: x_mod_3 :: x_mod_4 :: .int (nI (nw)) :: x_mod_6 :: x_mod_7 :: x_mod_8 :: x_mod_9 :: x_mod_10 :: x_mod_11 :: x_mod_12 :: x_mod_13 :: x_mod_14 :: x_mod_15 :: x_mod_16 :: x_mod_17 :: x_mod_18 :: x_mod_19 :: .ref a_mog :: x_mod_21 :: x_mod_22 :: x_mod_23 :: x_mod_24 :: x_mod_25 :: x_mod_26 :: x_mod_27 :: x_mod_28 :: x_mod_29 :: x_mod_30 :: x_mod_31 :: x_mod_32 :: []))) _ := g_trP (rfl) hP
          have hD : gvD A (ws.set p_mod (a_mod, .inr (8, .int (nI (0)) :: .int (nI (n)) :: x_mod_2 :: x_mod_3 :: x_mod_4 :: .int (nI (nw)) :: x_mod_6 :: x_mod_7 :: x_mod_8 :: x_mod_9 :: x_mod_10 :: x_mod_11 :: x_mod_12 :: x_mod_13 :: x_mod_14 :: x_mod_15 :: x_mod_16 :: x_mod_17 :: x_mod_18 :: x_mod_19 :: .ref a_mog :: x_mod_21 :: x_mod_22 :: x_mod_23 :: x_mod_24 :: x_mod_25 :: x_mod_26 :: x_mod_27 :: x_mod_28 :: x_mod_29 :: x_mod_30 :: x_mod_31 :: x_mod_32 :: []))) := g_trD (rfl) hD
          exact ih_j H locs ls hP hD hS (lv_sub hl [3, 4, 5, 1, 0] (by rw [lsF, if_neg (fun z => z.1 c_85)]; rfl))
        · refine lv_iload_n hx hb dX7_core_88 rfl (lv_at hl 3 rfl) ?_
          refine lv_iconst (v := (-1)) hx hb dX7_core_89 (by decide) ?_
          refine lv_icmp_eq (tgt := 118) hx hb dX7_core_90 (by decide) (fun c_90 => absurd c_90 (nI_neg (by omega))) (fun c_90 => ?_)
          refine lv_aload_n hx hb dX7_core_93 rfl (lv_at hl 0 rfl) ?_
          have f_mod := g_eq (x := (a_mod, .inr (8, .int (nI (0)) :: .int (nI (n)) :: x_mod_2 :: x_mod_3 :: x_mod_4 :: .int (nI (nw)) :: x_mod_6 :: x_mod_7 :: x_mod_8 :: x_mod_9 :: x_mod_10 :: x_mod_11 :: x_mod_12 :: x_mod_13 :: x_mod_14 :: x_mod_15 :: x_mod_16 :: x_mod_17 :: x_mod_18 :: x_mod_19 :: .ref a_mog :: x_mod_21 :: x_mod_22 :: x_mod_23 :: x_mod_24 :: x_mod_25 :: x_mod_26 :: x_mod_27 :: x_mod_28 :: x_mod_29 :: x_mod_30 :: x_mod_31 :: x_mod_32 :: []))) (f0_mod)
          refine va_get (D := D) (ci := 8) (v := .ref a_mog) (C := RX7) (T := TX7) (N := 33) hx hb hts in_RX7 hown hE.1 (gv1 hP f_mod) 0 rfl rfl 20 (by decide) (hts (.fieldLink RX7 57 "BasketryOfficeModel" "ofGroup" "[D") (by decide +kernel)) (fun _ h9 => h9) rfl dX7_core_94 ?_
          refine lv_iconst (v := nI 4) hx hb dX7_core_97 (by decide) ?_
          refine lv_iload_n hx hb dX7_core_98 rfl (lv_at hl 1 rfl) ?_
          refine g_imul hx hb dX7_core_99 (pk_mul _ _) ?_
          refine lv_iload hx hb dX7_core_100 (lv_at hl 4 rfl) ?_
          refine g_iadd hx hb dX7_core_102 (nI_add _ _) ?_
          have f_mog := g_ne (x := (a_mod, .inr (8, .int (nI (0)) :: .int (nI (n)) :: x_mod_2 :: x_mod_3 :: x_mod_4 :: .int (nI (nw)) :: x_mod_6 :: x_mod_7 :: x_mod_8 :: x_mod_9 :: x_mod_10 :: x_mod_11 :: x_mod_12 :: x_mod_13 :: x_mod_14 :: x_mod_15 :: x_mod_16 :: x_mod_17 :: x_mod_18 :: x_mod_19 :: .ref a_mog :: x_mod_21 :: x_mod_22 :: x_mod_23 :: x_mod_24 :: x_mod_25 :: x_mod_26 :: x_mod_27 :: x_mod_28 :: x_mod_29 :: x_mod_30 :: x_mod_31 :: x_mod_32 :: []))) (g_kne f0_mod f0_mog (Nat.ne_of_beq_eq_false rfl)) (f0_mog)
          refine g_dald hx hb hE hP _ f_mog (by omega) (by decide) dX7_core_103 ?_
          refine g_dv (v' := mog (t * 4 + (0 + 1 + j))) (congrArg mog (by omega)) ?_
          refine lv_aload_n hx hb dX7_core_104 rfl (lv_at hl 0 rfl) ?_
          refine va_get (D := D) (ci := 8) (v := .ref a_mog) (C := RX7) (T := TX7) (N := 33) hx hb hts in_RX7 hown hE.1 (gv1 hP f_mod) 0 rfl rfl 20 (by decide) (hts (.fieldLink RX7 57 "BasketryOfficeModel" "ofGroup" "[D") (by decide +kernel)) (fun _ h9 => h9) rfl dX7_core_105 ?_
          refine lv_iconst (v := nI 4) hx hb dX7_core_108 (by decide) ?_
          refine lv_iload_n hx hb dX7_core_109 rfl (lv_at hl 1 rfl) ?_
          refine g_imul hx hb dX7_core_110 (pk_mul _ _) ?_
          refine lv_iload_n hx hb dX7_core_111 rfl (lv_at hl 3 rfl) ?_
          refine g_iadd hx hb dX7_core_112 (nI_add _ _) ?_
          refine g_dald hx hb hE hP _ f_mog (by omega) (by decide) dX7_core_113 ?_
          refine g_dv (v' := mog (t * 4 + (lsF mog t (gtF mog t 3) 0 (j)))) (congrArg mog (by omega)) ?_
          refine g_dcmpg_ge (tgt := 122) hx hb dX7_core_114 dX7_core_115 (by decide) (fun c_114 => ?_) (fun c_114 => ?_)
          · refine lv_iconst (v := nI 0) hx hb dX7_core_122 (by decide) ?_
            refine lv_istore (lv' := [(5, .int (nI (0))), (0, .ref a_mod), (1, .int (nI (t))), (2, .int (nI (gtF mog t (3)))), (3, .int (nI (lsF mog t (gtF mog t 3) 0 (j)))), (4, .int (nI (0 + 1 + j)))]) hx hb dX7_core_123 hl (by decide) rfl (fun ls hl => ?_)
            refine lv_iload hx hb dX7_core_125 (lv_at hl 0 rfl) ?_
            refine g_if_eq (tgt := 135) hx hb (by omega) dX7_core_127 (by decide) (fun c_127 => ?_) (fun c_127 => absurd c_127 (by omega))
            refine lv_iload_n hx hb dX7_core_135 rfl (lv_at hl 4 rfl) ?_
            refine lv_istore_n (lv' := [(3, .int (nI (lsF mog t (gtF mog t 3) 0 (j)))), (5, .int (nI (0))), (0, .ref a_mod), (1, .int (nI (t))), (2, .int (nI (gtF mog t (3)))), (4, .int (nI (0 + 1 + j)))]) hx hb dX7_core_136 rfl hl (by decide) rfl (fun ls hl => ?_)
            refine lv_iinc (v := nI (0 + 1 + j + 1)) (lv' := [(4, .int (nI (0 + 1 + j + 1))), (3, .int (nI (lsF mog t (gtF mog t 3) 0 (j)))), (5, .int (nI (0))), (0, .ref a_mod), (1, .int (nI (t))), (2, .int (nI (gtF mog t (3))))]) hx hb dX7_core_137 hl (k := 5) rfl (nI_add _ 1) (by decide) rfl (fun ls hl => ?_)
            refine lv_goto (tgt := 76) hx hb dX7_core_140 (by decide) ?_
            have hP : gvP D vwCl (ws.set p_mod (a_mod, .inr (8, .int (nI (0)) :: .int (nI (n)) :: x_mod_2 :: x_mod_3 :: x_mod_4 :: .int (nI (nw)) :: x_mod_6 :: x_mod_7 :: x_mod_8 :: x_mod_9 :: x_mod_10 :: x_mod_11 :: x_mod_12 :: x_mod_13 :: x_mod_14 :: x_mod_15 :: x_mod_16 :: x_mod_17 :: x_mod_18 :: x_mod_19 :: .ref a_mog :: x_mod_21 :: x_mod_22 :: x_mod_23 :: x_mod_24 :: x_mod_25 :: x_mod_26 :: x_mod_27 :: x_mod_28 :: x_mod_29 :: x_mod_30 :: x_mod_31 :: x_mod_32 :: []))) _ := g_trP (rfl) hP
            have hD : gvD A (ws.set p_mod (a_mod, .inr (8, .int (nI (0)) :: .int (nI (n)) :: x_mod_2 :: x_mod_3 :: x_mod_4 :: .int (nI (nw)) :: x_mod_6 :: x_mod_7 :: x_mod_8 :: x_mod_9 :: x_mod_10 :: x_mod_11 :: x_mod_12 :: x_mod_13 :: x_mod_14 :: x_mod_15 :: x_mod_16 :: x_mod_17 :: x_mod_18 :: x_mod_19 :: .ref a_mog :: x_mod_21 :: x_mod_22 :: x_mod_23 :: x_mod_24 :: x_mod_25 :: x_mod_26 :: x_mod_27 :: x_mod_28 :: x_mod_29 :: x_mod_30 :: x_mod_31 :: x_mod_32 :: []))) := g_trD (rfl) hD
            exact ih_j H locs ls hP hD hS (lv_sub hl [3, 4, 5, 1, 0] (by rw [lsF, if_neg (fun z => c_114 z.2)]; rfl))
          · refine lv_iconst (v := nI 1) hx hb dX7_core_118 (by decide) ?_
            refine lv_goto (tgt := 123) hx hb dX7_core_119 (by decide) ?_
            refine lv_istore (lv' := [(5, .int (nI (1))), (0, .ref a_mod), (1, .int (nI (t))), (2, .int (nI (gtF mog t (3)))), (3, .int (nI (lsF mog t (gtF mog t 3) 0 (j)))), (4, .int (nI (0 + 1 + j)))]) hx hb dX7_core_123 hl (by decide) rfl (fun ls hl => ?_)
            refine lv_iload hx hb dX7_core_125 (lv_at hl 0 rfl) ?_
            refine g_if_eq (tgt := 135) hx hb (by omega) dX7_core_127 (by decide) (fun c_127 => absurd c_127 (by omega)) (fun c_127 => ?_)
            refine lv_iload hx hb dX7_core_130 (lv_at hl 5 rfl) ?_
            refine lv_goto (tgt := 136) hx hb dX7_core_132 (by decide) ?_
            refine lv_istore_n (lv' := [(3, .int (nI (0 + 1 + j))), (5, .int (nI (1))), (0, .ref a_mod), (1, .int (nI (t))), (2, .int (nI (gtF mog t (3)))), (4, .int (nI (0 + 1 + j)))]) hx hb dX7_core_136 rfl hl (by decide) rfl (fun ls hl => ?_)
            refine lv_iinc (v := nI (0 + 1 + j + 1)) (lv' := [(4, .int (nI (0 + 1 + j + 1))), (3, .int (nI (0 + 1 + j))), (5, .int (nI (1))), (0, .ref a_mod), (1, .int (nI (t))), (2, .int (nI (gtF mog t (3))))]) hx hb dX7_core_137 hl (k := 5) rfl (nI_add _ 1) (by decide) rfl (fun ls hl => ?_)
            refine lv_goto (tgt := 76) hx hb dX7_core_140 (by decide) ?_
            have hP : gvP D vwCl (ws.set p_mod (a_mod, .inr (8, .int (nI (0)) :: .int (nI (n)) :: x_mod_2 :: x_mod_3 :: x_mod_4 :: .int (nI (nw)) :: x_mod_6 :: x_mod_7 :: x_mod_8 :: x_mod_9 :: x_mod_10 :: x_mod_11 :: x_mod_12 :: x_mod_13 :: x_mod_14 :: x_mod_15 :: x_mod_16 :: x_mod_17 :: x_mod_18 :: x_mod_19 :: .ref a_mog :: x_mod_21 :: x_mod_22 :: x_mod_23 :: x_mod_24 :: x_mod_25 :: x_mod_26 :: x_mod_27 :: x_mod_28 :: x_mod_29 :: x_mod_30 :: x_mod_31 :: x_mod_32 :: []))) _ := g_trP (rfl) hP
            have hD : gvD A (ws.set p_mod (a_mod, .inr (8, .int (nI (0)) :: .int (nI (n)) :: x_mod_2 :: x_mod_3 :: x_mod_4 :: .int (nI (nw)) :: x_mod_6 :: x_mod_7 :: x_mod_8 :: x_mod_9 :: x_mod_10 :: x_mod_11 :: x_mod_12 :: x_mod_13 :: x_mod_14 :: x_mod_15 :: x_mod_16 :: x_mod_17 :: x_mod_18 :: x_mod_19 :: .ref a_mog :: x_mod_21 :: x_mod_22 :: x_mod_23 :: x_mod_24 :: x_mod_25 :: x_mod_26 :: x_mod_27 :: x_mod_28 :: x_mod_29 :: x_mod_30 :: x_mod_31 :: x_mod_32 :: []))) := g_trD (rfl) hD
            exact ih_j H locs ls hP hD hS (lv_sub hl [3, 4, 5, 1, 0] (by rw [lsF, if_pos ⟨c_85, c_114⟩]; rfl))
  · intro j hj_j ih_j H locs ls hP hD hS hl
    have hP : gvP D vwCl (ws.set p_mod (a_mod, .inr (8, .int (nI (0)) :: .int (nI (n)) :: x_mod_2 :: x_mod_3 :: x_mod_4 :: .int (nI (nw)) :: x_mod_6 :: x_mod_7 :: x_mod_8 :: x_mod_9 :: x_mod_10 :: x_mod_11 :: x_mod_12 :: x_mod_13 :: x_mod_14 :: x_mod_15 :: x_mod_16 :: x_mod_17 :: x_mod_18 :: x_mod_19 :: .ref a_mog :: x_mod_21 :: x_mod_22 :: x_mod_23 :: x_mod_24 :: x_mod_25 :: x_mod_26 :: x_mod_27 :: x_mod_28 :: x_mod_29 :: x_mod_30 :: x_mod_31 :: x_mod_32 :: []))) H := hP
    have hD : gvD A (ws.set p_mod (a_mod, .inr (8, .int (nI (0)) :: .int (nI (n)) :: x_mod_2 :: x_mod_3 :: x_mod_4 :: .int (nI (nw)) :: x_mod_6 :: x_mod_7 :: x_mod_8 :: x_mod_9 :: x_mod_10 :: x_mod_11 :: x_mod_12 :: x_mod_13 :: x_mod_14 :: x_mod_15 :: x_mod_16 :: x_mod_17 :: x_mod_18 :: x_mod_19 :: .ref a_mog :: x_mod_21 :: x_mod_22 :: x_mod_23 :: x_mod_24 :: x_mod_25 :: x_mod_26 :: x_mod_27 :: x_mod_28 :: x_mod_29 :: x_mod_30 :: x_mod_31 :: x_mod_32 :: []))) := hD
    have hl : lv_has ls 7 [(0, .ref a_mod), (1, .int (nI (t))), (2, .int (nI (gtF mog t (j)))), (3, .int (nI (1 + j)))] := hl
    have hgt := gtF_le mog t j
    refine lv_iload_n hx hb dX7_core_30 rfl (lv_at hl 3 rfl) ?_
    refine lv_iconst (v := nI 4) hx hb dX7_core_31 (by decide) ?_
    refine g_icmp_ge (tgt := 71) hx hb (by omega) (by omega) dX7_core_32 (by decide) (fun c_32 => absurd c_32 (by omega)) (fun c_32 => ?_)
    refine lv_aload_n hx hb dX7_core_35 rfl (lv_at hl 0 rfl) ?_
    have f_mod := g_eq (x := (a_mod, .inr (8, .int (nI (0)) :: .int (nI (n)) :: x_mod_2 :: x_mod_3 :: x_mod_4 :: .int (nI (nw)) :: x_mod_6 :: x_mod_7 :: x_mod_8 :: x_mod_9 :: x_mod_10 :: x_mod_11 :: x_mod_12 :: x_mod_13 :: x_mod_14 :: x_mod_15 :: x_mod_16 :: x_mod_17 :: x_mod_18 :: x_mod_19 :: .ref a_mog :: x_mod_21 :: x_mod_22 :: x_mod_23 :: x_mod_24 :: x_mod_25 :: x_mod_26 :: x_mod_27 :: x_mod_28 :: x_mod_29 :: x_mod_30 :: x_mod_31 :: x_mod_32 :: []))) (f0_mod)
    refine va_get (D := D) (ci := 8) (v := .ref a_mog) (C := RX7) (T := TX7) (N := 33) hx hb hts in_RX7 hown hE.1 (gv1 hP f_mod) 0 rfl rfl 20 (by decide) (hts (.fieldLink RX7 57 "BasketryOfficeModel" "ofGroup" "[D") (by decide +kernel)) (fun _ h9 => h9) rfl dX7_core_36 ?_
    refine lv_iconst (v := nI 4) hx hb dX7_core_39 (by decide) ?_
    refine lv_iload_n hx hb dX7_core_40 rfl (lv_at hl 1 rfl) ?_
    refine g_imul hx hb dX7_core_41 (pk_mul _ _) ?_
    refine lv_iload_n hx hb dX7_core_42 rfl (lv_at hl 3 rfl) ?_
    refine g_iadd hx hb dX7_core_43 (nI_add _ _) ?_
    have f_mog := g_ne (x := (a_mod, .inr (8, .int (nI (0)) :: .int (nI (n)) :: x_mod_2 :: x_mod_3 :: x_mod_4 :: .int (nI (nw)) :: x_mod_6 :: x_mod_7 :: x_mod_8 :: x_mod_9 :: x_mod_10 :: x_mod_11 :: x_mod_12 :: x_mod_13 :: x_mod_14 :: x_mod_15 :: x_mod_16 :: x_mod_17 :: x_mod_18 :: x_mod_19 :: .ref a_mog :: x_mod_21 :: x_mod_22 :: x_mod_23 :: x_mod_24 :: x_mod_25 :: x_mod_26 :: x_mod_27 :: x_mod_28 :: x_mod_29 :: x_mod_30 :: x_mod_31 :: x_mod_32 :: []))) (g_kne f0_mod f0_mog (Nat.ne_of_beq_eq_false rfl)) (f0_mog)
    refine g_dald hx hb hE hP _ f_mog (by omega) (by decide) dX7_core_44 ?_
    refine g_dv (v' := mog (t * 4 + (1 + j))) (congrArg mog (by omega)) ?_
    refine lv_aload_n hx hb dX7_core_45 rfl (lv_at hl 0 rfl) ?_
    refine va_get (D := D) (ci := 8) (v := .ref a_mog) (C := RX7) (T := TX7) (N := 33) hx hb hts in_RX7 hown hE.1 (gv1 hP f_mod) 0 rfl rfl 20 (by decide) (hts (.fieldLink RX7 57 "BasketryOfficeModel" "ofGroup" "[D") (by decide +kernel)) (fun _ h9 => h9) rfl dX7_core_46 ?_
    refine lv_iconst (v := nI 4) hx hb dX7_core_49 (by decide) ?_
    refine lv_iload_n hx hb dX7_core_50 rfl (lv_at hl 1 rfl) ?_
    refine g_imul hx hb dX7_core_51 (pk_mul _ _) ?_
    refine lv_iload_n hx hb dX7_core_52 rfl (lv_at hl 2 rfl) ?_
    refine g_iadd hx hb dX7_core_53 (nI_add _ _) ?_
    refine g_dald hx hb hE hP _ f_mog (by omega) (by decide) dX7_core_54 ?_
    refine g_dv (v' := mog (t * 4 + (gtF mog t (j)))) (congrArg mog (by omega)) ?_
    refine g_dcmpl_le (tgt := 63) hx hb dX7_core_55 dX7_core_56 (by decide) (fun c_55 => ?_) (fun c_55 => ?_)
    · refine lv_iload_n hx hb dX7_core_63 rfl (lv_at hl 2 rfl) ?_
      refine lv_istore_n (lv' := [(2, .int (nI (gtF mog t (j)))), (0, .ref a_mod), (1, .int (nI (t))), (3, .int (nI (1 + j)))]) hx hb dX7_core_64 rfl hl (by decide) rfl (fun ls hl => ?_)
      refine lv_iinc (v := nI (1 + j + 1)) (lv' := [(3, .int (nI (1 + j + 1))), (2, .int (nI (gtF mog t (j)))), (0, .ref a_mod), (1, .int (nI (t)))]) hx hb dX7_core_65 hl (k := 3) rfl (nI_add _ 1) (by decide) rfl (fun ls hl => ?_)
      refine lv_goto (tgt := 30) hx hb dX7_core_68 (by decide) ?_
      have hP : gvP D vwCl (ws.set p_mod (a_mod, .inr (8, .int (nI (0)) :: .int (nI (n)) :: x_mod_2 :: x_mod_3 :: x_mod_4 :: .int (nI (nw)) :: x_mod_6 :: x_mod_7 :: x_mod_8 :: x_mod_9 :: x_mod_10 :: x_mod_11 :: x_mod_12 :: x_mod_13 :: x_mod_14 :: x_mod_15 :: x_mod_16 :: x_mod_17 :: x_mod_18 :: x_mod_19 :: .ref a_mog :: x_mod_21 :: x_mod_22 :: x_mod_23 :: x_mod_24 :: x_mod_25 :: x_mod_26 :: x_mod_27 :: x_mod_28 :: x_mod_29 :: x_mod_30 :: x_mod_31 :: x_mod_32 :: []))) _ := g_trP (rfl) hP
      have hD : gvD A (ws.set p_mod (a_mod, .inr (8, .int (nI (0)) :: .int (nI (n)) :: x_mod_2 :: x_mod_3 :: x_mod_4 :: .int (nI (nw)) :: x_mod_6 :: x_mod_7 :: x_mod_8 :: x_mod_9 :: x_mod_10 :: x_mod_11 :: x_mod_12 :: x_mod_13 :: x_mod_14 :: x_mod_15 :: x_mod_16 :: x_mod_17 :: x_mod_18 :: x_mod_19 :: .ref a_mog :: x_mod_21 :: x_mod_22 :: x_mod_23 :: x_mod_24 :: x_mod_25 :: x_mod_26 :: x_mod_27 :: x_mod_28 :: x_mod_29 :: x_mod_30 :: x_mod_31 :: x_mod_32 :: []))) := g_trD (rfl) hD
      exact ih_j H locs ls hP hD hS (lv_sub hl [2, 3, 1, 0] (by rw [gtF, if_neg c_55]; rfl))
    · refine lv_iload_n hx hb dX7_core_59 rfl (lv_at hl 3 rfl) ?_
      refine lv_goto (tgt := 64) hx hb dX7_core_60 (by decide) ?_
      refine lv_istore_n (lv' := [(2, .int (nI (1 + j))), (0, .ref a_mod), (1, .int (nI (t))), (3, .int (nI (1 + j)))]) hx hb dX7_core_64 rfl hl (by decide) rfl (fun ls hl => ?_)
      refine lv_iinc (v := nI (1 + j + 1)) (lv' := [(3, .int (nI (1 + j + 1))), (2, .int (nI (1 + j))), (0, .ref a_mod), (1, .int (nI (t)))]) hx hb dX7_core_65 hl (k := 3) rfl (nI_add _ 1) (by decide) rfl (fun ls hl => ?_)
      refine lv_goto (tgt := 30) hx hb dX7_core_68 (by decide) ?_
      have hP : gvP D vwCl (ws.set p_mod (a_mod, .inr (8, .int (nI (0)) :: .int (nI (n)) :: x_mod_2 :: x_mod_3 :: x_mod_4 :: .int (nI (nw)) :: x_mod_6 :: x_mod_7 :: x_mod_8 :: x_mod_9 :: x_mod_10 :: x_mod_11 :: x_mod_12 :: x_mod_13 :: x_mod_14 :: x_mod_15 :: x_mod_16 :: x_mod_17 :: x_mod_18 :: x_mod_19 :: .ref a_mog :: x_mod_21 :: x_mod_22 :: x_mod_23 :: x_mod_24 :: x_mod_25 :: x_mod_26 :: x_mod_27 :: x_mod_28 :: x_mod_29 :: x_mod_30 :: x_mod_31 :: x_mod_32 :: []))) _ := g_trP (rfl) hP
      have hD : gvD A (ws.set p_mod (a_mod, .inr (8, .int (nI (0)) :: .int (nI (n)) :: x_mod_2 :: x_mod_3 :: x_mod_4 :: .int (nI (nw)) :: x_mod_6 :: x_mod_7 :: x_mod_8 :: x_mod_9 :: x_mod_10 :: x_mod_11 :: x_mod_12 :: x_mod_13 :: x_mod_14 :: x_mod_15 :: x_mod_16 :: x_mod_17 :: x_mod_18 :: x_mod_19 :: .ref a_mog :: x_mod_21 :: x_mod_22 :: x_mod_23 :: x_mod_24 :: x_mod_25 :: x_mod_26 :: x_mod_27 :: x_mod_28 :: x_mod_29 :: x_mod_30 :: x_mod_31 :: x_mod_32 :: []))) := g_trD (rfl) hD
      exact ih_j H locs ls hP hD hS (lv_sub hl [2, 3, 1, 0] (by rw [gtF, if_pos c_55]; rfl))
