theorem in_c_X4_tell_RX4 : ∀ w ∈ wsX40, w ∈ wsX4_tell := by decide +kernel
set_option maxHeartbeats 4000000 in
set_option maxRecDepth 100000 in
theorem c_X4_tell (l : Launch) {D : va_G} {y : Nat → Nat} {ws : va_W} {x_spd_1 : Value} {x_spd_2 : Value} {p_spd p_told a_spd a_told : Nat} {told : Nat → Nat} {h g ce : Nat} (f0_spd : ws[p_spd]? = some (a_spd, .inr (5, [.ref a_told, x_spd_1, x_spd_2]))) (f0_told : ws[p_told]? = some (a_told, eN y 12 told)) (b_told : ∀ k, told k ≤ 1000000000) (hh : h < 3) (hg : g < 4) : gMi l yX4_tell wsX4_tell ({ frames := 0, cells := 0, slots := 0, locals := 0 }) D y [.ref a_spd, .int (nI (h)), .int (nI (g)), .int (nI (ce))] ws (fun r (_ : Unit) => r = nI (told (h * 4 + g))) (fun (_ : Unit) => (ws.set p_told (a_told, eN y 12 (vf_upd told (h * 4 + g) (ce))))) := by
  refine g_met_i (cc := cX4_tell) (maxL := 6) (by decide) rfl (Nat.le_of_ble_eq_true rfl) ?_
  intro p e s m below meth c A hx hb hml hr hts hown hnm hlocks hE hP hD hS hA ls hl
  have hown : s.vm.findClass RX4 = some m.cls := hown
  have hl : lv_has ls 6 [(0, .ref a_spd), (1, .int (nI (h))), (2, .int (nI (g))), (3, .int (nI (ce)))] := hl
  have in_RX4 := in_c_X4_tell_RX4
  refine lv_iload_n hx hb dX4_tell_0 rfl (lv_at hl 1 rfl) ?_
  refine lv_iconst (v := nI 4) hx hb dX4_tell_1 (by decide) ?_
  refine g_imul hx hb dX4_tell_2 (pk_mul _ _) ?_
  refine lv_iload_n hx hb dX4_tell_3 rfl (lv_at hl 2 rfl) ?_
  refine g_iadd hx hb dX4_tell_4 (nI_add _ _) ?_
  refine lv_istore (lv' := [(4, .int (nI ((h * 4) + g))), (0, .ref a_spd), (1, .int (nI (h))), (2, .int (nI (g))), (3, .int (nI (ce)))]) hx hb dX4_tell_5 hl (by decide) rfl (fun ls hl => ?_)
  refine lv_aload_n hx hb dX4_tell_7 rfl (lv_at hl 1 rfl) ?_
  refine va_get (D := D) (ci := 5) (v := .ref a_told) (C := RX4) (T := TX4) (N := 3) hx hb hts in_RX4 hown hE.1 (gv1 hP f0_spd) 0 rfl rfl 0 (by decide) (hts (.fieldLink RX4 9 "BasketryOffice$Spendings" "told" "[I") (by decide +kernel)) (fun _ h9 => h9) rfl dX4_tell_8 ?_
  refine lv_iload hx hb dX4_tell_11 (lv_at hl 0 rfl) ?_
  refine g_nald hx hb hE hP _ f0_told (by omega) (by decide) dX4_tell_13 ?_
  have bd_13_1 := b_told ((h * 4) + g)
  refine lv_istore (lv' := [(5, .int (nI (told ((h * 4) + g)))), (4, .int (nI ((h * 4) + g))), (0, .ref a_spd), (1, .int (nI (h))), (2, .int (nI (g))), (3, .int (nI (ce)))]) hx hb dX4_tell_14 hl (by decide) rfl (fun ls hl => ?_)
  refine lv_aload_n hx hb dX4_tell_16 rfl (lv_at hl 2 rfl) ?_
  refine va_get (D := D) (ci := 5) (v := .ref a_told) (C := RX4) (T := TX4) (N := 3) hx hb hts in_RX4 hown hE.1 (gv1 hP f0_spd) 0 rfl rfl 0 (by decide) (hts (.fieldLink RX4 9 "BasketryOffice$Spendings" "told" "[I") (by decide +kernel)) (fun _ h9 => h9) rfl dX4_tell_17 ?_
  refine lv_iload hx hb dX4_tell_20 (lv_at hl 1 rfl) ?_
  refine lv_iload_n hx hb dX4_tell_22 rfl (lv_at hl 5 rfl) ?_
  refine g_nast hx hb hE hP hD hS _ f0_told (by omega) (by decide) dX4_tell_23 (fun H locs hP hD hS => ?_)
  have f_spd := g_ne (x := (a_told, eN y 12 (vf_upd told ((h * 4) + g) (ce)))) (g_kne f0_told f0_spd (Nat.ne_of_beq_eq_false rfl)) (f0_spd)
  have f_told := g_eq (x := (a_told, eN y 12 (vf_upd told ((h * 4) + g) (ce)))) (f0_told)
  refine lv_iload hx hb dX4_tell_24 (lv_at hl 0 rfl) ?_
  refine g_iret hx hb hr hlocks () dX4_tell_26 hS hP hD ?_
  exact rfl

theorem in_c_X4_adoptAll_RX4 : ∀ w ∈ wsX40, w ∈ wsX4_adoptAll := by decide +kernel
set_option maxHeartbeats 4000000 in
set_option maxRecDepth 100000 in
theorem c_X4_adoptAll (l : Launch) {D : va_G} {y : Nat → Nat} {ws : va_W} {x_spd_2 : Value} {p_spd p_told p_adp a_spd a_told a_adp : Nat} {told : Nat → Nat} {adp : Nat → Nat} (f0_spd : ws[p_spd]? = some (a_spd, .inr (5, [.ref a_told, .ref a_adp, x_spd_2]))) (f0_told : ws[p_told]? = some (a_told, eN y 12 told)) (f0_adp : ws[p_adp]? = some (a_adp, eN y 12 adp)) (b_told : ∀ k, told k ≤ 1000000000) (b_adp : ∀ k, adp k ≤ 1000000000) (hdis : p_told ≠ p_adp) : gMl l yX4_adoptAll wsX4_adoptAll ({ frames := 0, cells := 0, slots := 0, locals := 0 }) D y [.ref a_spd] ws (fun r (_ : Unit) => r = lN (tS told 12)) (fun (_ : Unit) => (ws.set p_adp (a_adp, eN y 12 (adF told adp 12)))) := by
  refine g_met_l (cc := cX4_adoptAll) (maxL := 4) (by decide) rfl (Nat.le_of_ble_eq_true rfl) ?_
  intro p e s m below meth c A hx hb hml hr hts hown hnm hlocks hE hP hD hS hA ls hl
  have hown : s.vm.findClass RX4 = some m.cls := hown
  have hl : lv_has ls 4 [(0, .ref a_spd)] := hl
  have in_RX4 := in_c_X4_adoptAll_RX4
  refine lv_lconst (v := lN 0) hx hb dX4_adoptAll_0 (by decide) ?_
  refine lv_lstore_n (lv' := [(1, .long (lN (0))), (0, .ref a_spd)]) hx hb dX4_adoptAll_1 rfl hl (by decide) rfl (fun ls hl => ?_)
  refine lv_iconst (v := nI 0) hx hb dX4_adoptAll_2 (by decide) ?_
  refine lv_istore_n (lv' := [(3, .int (nI (0))), (1, .long (lN (0))), (0, .ref a_spd)]) hx hb dX4_adoptAll_3 rfl hl (by decide) rfl (fun ls hl => ?_)
  have hP := g_trP (g_same f0_adp) hP
  have hD := g_trD (g_same f0_adp) hD
  have f_spd := g_ne (x := (a_adp, eN y 12 adp)) (g_kne f0_adp f0_spd (Nat.ne_of_beq_eq_false rfl)) (f0_spd)
  have f_told := g_ne (x := (a_adp, eN y 12 adp)) (Ne.symm hdis) (f0_told)
  have f_adp := g_eq (x := (a_adp, eN y 12 adp)) (f0_adp)
  have hP : gvP D vwCl (ws.set p_adp (a_adp, eN y 12 (adF told adp (0)))) _ := g_trP (rfl) hP
  have hD : gvD A (ws.set p_adp (a_adp, eN y 12 (adF told adp (0)))) := g_trD (rfl) hD
  refine g_for (fun j => (ws.set p_adp (a_adp, eN y 12 (adF told adp (j))))) (fun j => [(0, .ref a_spd), (1, .long (lN (tS told (j)))), (3, .int (nI (j)))]) (12) (0) (by omega) ?_ ?_ hP hD hS (lv_sub hl [2, 1, 0] rfl)
  · intro H locs ls hP hD hS hl
    have hP : gvP D vwCl (ws.set p_adp (a_adp, eN y 12 (adF told adp (12)))) H := hP
    have hD : gvD A (ws.set p_adp (a_adp, eN y 12 (adF told adp (12)))) := hD
    have hl : lv_has ls 4 [(0, .ref a_spd), (1, .long (lN (tS told (12)))), (3, .int (nI (12)))] := hl
    have f_spd := g_ne (x := (a_adp, eN y 12 (adF told adp (12)))) (g_kne f0_adp f0_spd (Nat.ne_of_beq_eq_false rfl)) (f0_spd)
    have f_told := g_ne (x := (a_adp, eN y 12 (adF told adp (12)))) (Ne.symm hdis) (f0_told)
    have f_adp := g_eq (x := (a_adp, eN y 12 (adF told adp (12)))) (f0_adp)
    refine lv_iload_n hx hb dX4_adoptAll_4 rfl (lv_at hl 2 rfl) ?_
    refine lv_bipush (v := nI 12) hx hb dX4_adoptAll_5 (by decide) ?_
    refine g_icmp_ge (tgt := 38) hx hb (by omega) (by omega) dX4_adoptAll_7 (by decide) (fun c_7 => ?_) (fun c_7 => absurd c_7 (by omega))
    refine lv_lload_n hx hb dX4_adoptAll_38 rfl (lv_at hl 1 rfl) ?_
    refine g_lret hx hb hr hlocks () dX4_adoptAll_39 hS hP hD ?_
    exact rfl
  · intro j hj_j ih_j H locs ls hP hD hS hl
    have hP : gvP D vwCl (ws.set p_adp (a_adp, eN y 12 (adF told adp (j)))) H := hP
    have hD : gvD A (ws.set p_adp (a_adp, eN y 12 (adF told adp (j)))) := hD
    have hl : lv_has ls 4 [(0, .ref a_spd), (1, .long (lN (tS told (j)))), (3, .int (nI (j)))] := hl
    have f_spd := g_ne (x := (a_adp, eN y 12 (adF told adp (j)))) (g_kne f0_adp f0_spd (Nat.ne_of_beq_eq_false rfl)) (f0_spd)
    have f_told := g_ne (x := (a_adp, eN y 12 (adF told adp (j)))) (Ne.symm hdis) (f0_told)
    have f_adp := g_eq (x := (a_adp, eN y 12 (adF told adp (j)))) (f0_adp)
    refine lv_iload_n hx hb dX4_adoptAll_4 rfl (lv_at hl 2 rfl) ?_
    refine lv_bipush (v := nI 12) hx hb dX4_adoptAll_5 (by decide) ?_
    refine g_icmp_ge (tgt := 38) hx hb (by omega) (by omega) dX4_adoptAll_7 (by decide) (fun c_7 => absurd c_7 (by omega)) (fun c_7 => ?_)
    refine lv_aload_n hx hb dX4_adoptAll_10 rfl (lv_at hl 0 rfl) ?_
    refine va_get (D := D) (ci := 5) (v := .ref a_adp) (C := RX4) (T := TX4) (N := 3) hx hb hts in_RX4 hown hE.1 (gv1 hP f_spd) 0 rfl rfl 1 (by decide) (hts (.fieldLink RX4 15 "BasketryOffice$Spendings" "adopted" "[I") (by decide +kernel)) (fun _ h9 => h9) rfl dX4_adoptAll_11 ?_
    refine lv_iload_n hx hb dX4_adoptAll_14 rfl (lv_at hl 2 rfl) ?_
    refine lv_aload_n hx hb dX4_adoptAll_15 rfl (lv_at hl 0 rfl) ?_
    refine va_get (D := D) (ci := 5) (v := .ref a_told) (C := RX4) (T := TX4) (N := 3) hx hb hts in_RX4 hown hE.1 (gv1 hP f_spd) 0 rfl rfl 0 (by decide) (hts (.fieldLink RX4 9 "BasketryOffice$Spendings" "told" "[I") (by decide +kernel)) (fun _ h9 => h9) rfl dX4_adoptAll_16 ?_
    refine lv_iload_n hx hb dX4_adoptAll_19 rfl (lv_at hl 2 rfl) ?_
    refine g_nald hx hb hE hP _ f_told (by omega) (by decide) dX4_adoptAll_20 ?_
    have bd_20_1 := b_told (j)
    refine g_nast hx hb hE hP hD hS _ f_adp (by omega) (by decide) dX4_adoptAll_21 (fun H locs hP hD hS => ?_)
    have hP := g_trP g_ss hP
    have hD := g_trD g_ss hD
    have f_spd := g_ne (x := (a_adp, eN y 12 (vf_upd (adF told adp (j)) (j) (told j)))) (g_kne f0_adp f0_spd (Nat.ne_of_beq_eq_false rfl)) (f0_spd)
    have f_told := g_ne (x := (a_adp, eN y 12 (vf_upd (adF told adp (j)) (j) (told j)))) (Ne.symm hdis) (f0_told)
    have f_adp := g_eq (x := (a_adp, eN y 12 (vf_upd (adF told adp (j)) (j) (told j)))) (f0_adp)
    refine lv_lload_n hx hb dX4_adoptAll_22 rfl (lv_at hl 1 rfl) ?_
    refine lv_aload_n hx hb dX4_adoptAll_23 rfl (lv_at hl 0 rfl) ?_
    refine va_get (D := D) (ci := 5) (v := .ref a_told) (C := RX4) (T := TX4) (N := 3) hx hb hts in_RX4 hown hE.1 (gv1 hP f_spd) 0 rfl rfl 0 (by decide) (hts (.fieldLink RX4 9 "BasketryOffice$Spendings" "told" "[I") (by decide +kernel)) (fun _ h9 => h9) rfl dX4_adoptAll_24 ?_
    refine lv_iload_n hx hb dX4_adoptAll_27 rfl (lv_at hl 2 rfl) ?_
    refine g_nald hx hb hE hP _ f_told (by omega) (by decide) dX4_adoptAll_28 ?_
    have bd_28_2 := b_told (j)
    refine lv_i2l (v := lN (told j)) hx hb dX4_adoptAll_29 (nI_l (by omega)) ?_
    refine g_ladd hx hb dX4_adoptAll_30 (lN_add _ _) ?_
    refine lv_lstore_n (lv' := [(1, .long (lN ((tS told (j)) + (told j)))), (0, .ref a_spd), (3, .int (nI (j)))]) hx hb dX4_adoptAll_31 rfl hl (by decide) rfl (fun ls hl => ?_)
    refine lv_iinc (v := nI (j + 1)) (lv' := [(3, .int (nI (j + 1))), (1, .long (lN ((tS told (j)) + (told j)))), (0, .ref a_spd)]) hx hb dX4_adoptAll_32 hl (k := 2) rfl (nI_add _ 1) (by decide) rfl (fun ls hl => ?_)
    refine lv_goto (tgt := 4) hx hb dX4_adoptAll_35 (by decide) ?_
    have hP : gvP D vwCl (ws.set p_adp (a_adp, eN y 12 (adF told adp (j + 1)))) _ := g_trP (rfl) hP
    have hD : gvD A (ws.set p_adp (a_adp, eN y 12 (adF told adp (j + 1)))) := g_trD (rfl) hD
    exact ih_j H locs ls hP hD hS (lv_sub hl [2, 1, 0] rfl)

theorem in_c_X4_spentBy_RX4 : ∀ w ∈ wsX40, w ∈ wsX4_spentBy := by decide +kernel
set_option maxHeartbeats 4000000 in
set_option maxRecDepth 100000 in
theorem c_X4_spentBy (l : Launch) {D : va_G} {y : Nat → Nat} {ws : va_W} {x_spd_0 : Value} {x_spd_2 : Value} {p_spd p_adp a_spd a_adp : Nat} {adp : Nat → Nat} {h : Nat} (f0_spd : ws[p_spd]? = some (a_spd, .inr (5, [x_spd_0, .ref a_adp, x_spd_2]))) (f0_adp : ws[p_adp]? = some (a_adp, eN y 12 adp)) (b_adp : ∀ k, adp k ≤ 1000000000) (hh : h < 3) : gMl l yX4_spentBy wsX4_spentBy ({ frames := 0, cells := 0, slots := 0, locals := 0 }) D y [.ref a_spd, .int (nI (h))] ws (fun r (_ : Unit) => r = lN (uS adp (h * 4) 4)) (fun (_ : Unit) => ws) := by
  refine g_met_l (cc := cX4_spentBy) (maxL := 5) (by decide) rfl (Nat.le_of_ble_eq_true rfl) ?_
  intro p e s m below meth c A hx hb hml hr hts hown hnm hlocks hE hP hD hS hA ls hl
  have hown : s.vm.findClass RX4 = some m.cls := hown
  have hl : lv_has ls 5 [(0, .ref a_spd), (1, .int (nI (h)))] := hl
  have in_RX4 := in_c_X4_spentBy_RX4
  refine lv_lconst (v := lN 0) hx hb dX4_spentBy_0 (by decide) ?_
  refine lv_lstore_n (lv' := [(2, .long (lN (0))), (0, .ref a_spd), (1, .int (nI (h)))]) hx hb dX4_spentBy_1 rfl hl (by decide) rfl (fun ls hl => ?_)
  refine lv_iconst (v := nI 0) hx hb dX4_spentBy_2 (by decide) ?_
  refine lv_istore (lv' := [(4, .int (nI (0))), (2, .long (lN (0))), (0, .ref a_spd), (1, .int (nI (h)))]) hx hb dX4_spentBy_3 hl (by decide) rfl (fun ls hl => ?_)
  have hP : gvP D vwCl ws _ := g_trP (rfl) hP
  have hD : gvD A ws := g_trD (rfl) hD
  refine g_for (fun j => ws) (fun j => [(0, .ref a_spd), (1, .int (nI (h))), (2, .long (lN (uS adp (h * 4) (j)))), (4, .int (nI (j)))]) (4) (0) (by omega) ?_ ?_ hP hD hS (lv_sub hl [2, 3, 1, 0] rfl)
  · intro H locs ls hP hD hS hl
    have hP : gvP D vwCl ws H := hP
    have hD : gvD A ws := hD
    have hl : lv_has ls 5 [(0, .ref a_spd), (1, .int (nI (h))), (2, .long (lN (uS adp (h * 4) (4)))), (4, .int (nI (4)))] := hl
    refine lv_iload hx hb dX4_spentBy_5 (lv_at hl 3 rfl) ?_
    refine lv_iconst (v := nI 4) hx hb dX4_spentBy_7 (by decide) ?_
    refine g_icmp_ge (tgt := 32) hx hb (by omega) (by omega) dX4_spentBy_8 (by decide) (fun c_8 => ?_) (fun c_8 => absurd c_8 (by omega))
    refine lv_lload_n hx hb dX4_spentBy_32 rfl (lv_at hl 2 rfl) ?_
    refine g_lret hx hb hr hlocks () dX4_spentBy_33 hS hP hD ?_
    exact rfl
  · intro j hj_j ih_j H locs ls hP hD hS hl
    have hP : gvP D vwCl ws H := hP
    have hD : gvD A ws := hD
    have hl : lv_has ls 5 [(0, .ref a_spd), (1, .int (nI (h))), (2, .long (lN (uS adp (h * 4) (j)))), (4, .int (nI (j)))] := hl
    refine lv_iload hx hb dX4_spentBy_5 (lv_at hl 3 rfl) ?_
    refine lv_iconst (v := nI 4) hx hb dX4_spentBy_7 (by decide) ?_
    refine g_icmp_ge (tgt := 32) hx hb (by omega) (by omega) dX4_spentBy_8 (by decide) (fun c_8 => absurd c_8 (by omega)) (fun c_8 => ?_)
    refine lv_lload_n hx hb dX4_spentBy_11 rfl (lv_at hl 2 rfl) ?_
    refine lv_aload_n hx hb dX4_spentBy_12 rfl (lv_at hl 0 rfl) ?_
    refine va_get (D := D) (ci := 5) (v := .ref a_adp) (C := RX4) (T := TX4) (N := 3) hx hb hts in_RX4 hown hE.1 (gv1 hP f0_spd) 0 rfl rfl 1 (by decide) (hts (.fieldLink RX4 15 "BasketryOffice$Spendings" "adopted" "[I") (by decide +kernel)) (fun _ h9 => h9) rfl dX4_spentBy_13 ?_
    refine lv_iload_n hx hb dX4_spentBy_16 rfl (lv_at hl 1 rfl) ?_
    refine lv_iconst (v := nI 4) hx hb dX4_spentBy_17 (by decide) ?_
    refine g_imul hx hb dX4_spentBy_18 (pk_mul _ _) ?_
    refine lv_iload hx hb dX4_spentBy_19 (lv_at hl 3 rfl) ?_
    refine g_iadd hx hb dX4_spentBy_21 (nI_add _ _) ?_
    refine g_nald hx hb hE hP _ f0_adp (by omega) (by decide) dX4_spentBy_22 ?_
    have bd_22_1 := b_adp ((h * 4) + j)
    refine lv_i2l (v := lN (adp ((h * 4) + j))) hx hb dX4_spentBy_23 (nI_l (by omega)) ?_
    refine g_ladd hx hb dX4_spentBy_24 (lN_add _ _) ?_
    refine lv_lstore_n (lv' := [(2, .long (lN ((uS adp (h * 4) (j)) + (adp ((h * 4) + j))))), (0, .ref a_spd), (1, .int (nI (h))), (4, .int (nI (j)))]) hx hb dX4_spentBy_25 rfl hl (by decide) rfl (fun ls hl => ?_)
    refine lv_iinc (v := nI (j + 1)) (lv' := [(4, .int (nI (j + 1))), (2, .long (lN ((uS adp (h * 4) (j)) + (adp ((h * 4) + j))))), (0, .ref a_spd), (1, .int (nI (h)))]) hx hb dX4_spentBy_26 hl (k := 3) rfl (nI_add _ 1) (by decide) rfl (fun ls hl => ?_)
    refine lv_goto (tgt := 5) hx hb dX4_spentBy_29 (by decide) ?_
    have hP : gvP D vwCl ws _ := g_trP (rfl) hP
    have hD : gvD A ws := g_trD (rfl) hD
    exact ih_j H locs ls hP hD hS (lv_sub hl [2, 3, 1, 0] rfl)

theorem in_c_X4_shareOfHousehold_RX4 : ∀ w ∈ wsX40, w ∈ wsX4_shareOfHousehold := by decide +kernel
set_option maxHeartbeats 4000000 in
set_option maxRecDepth 100000 in
theorem c_X4_shareOfHousehold (l : Launch) {D : va_G} {y : Nat → Nat} {ws : va_W} {x_spd_0 : Value} {x_spd_2 : Value} {p_spd p_adp a_spd a_adp : Nat} {adp : Nat → Nat} {h g : Nat} (f0_spd : ws[p_spd]? = some (a_spd, .inr (5, [x_spd_0, .ref a_adp, x_spd_2]))) (f0_adp : ws[p_adp]? = some (a_adp, eN y 12 adp)) (b_adp : ∀ k, adp k ≤ 1000000000) (hh : h < 3) (hg : g < 4) : gMd l yX4_shareOfHousehold wsX4_shareOfHousehold ({ frames := 1, cells := 0, slots := 0, locals := 24 }) D y [.ref a_spd, .int (nI (h)), .int (nI (g))] ws (fun r (_ : Unit) => r = sShH adp h g) (fun (_ : Unit) => ws) := by
  refine g_met_d (cc := cX4_shareOfHousehold) (maxL := 6) (by decide) rfl (Nat.le_of_ble_eq_true rfl) ?_
  intro p e s m below meth c A hx hb hml hr hts hown hnm hlocks hE hP hD hS hA ls hl
  have hown : s.vm.findClass RX4 = some m.cls := hown
  have hl : lv_has ls 6 [(0, .ref a_spd), (1, .int (nI (h))), (2, .int (nI (g)))] := hl
  have in_RX4 := in_c_X4_shareOfHousehold_RX4
  refine lv_aload_n hx hb dX4_shareOfHousehold_0 rfl (lv_at hl 0 rfl) ?_
  refine lv_iload_n hx hb dX4_shareOfHousehold_1 rfl (lv_at hl 1 rfl) ?_
  refine gc_V_l (As := [.int (nI (h))]) (rest := []) (c_X4_spentBy l f0_spd f0_adp b_adp (by omega)) ⟨hx, hb, hml, hown, hts⟩ (cwV 1 hts gX4_shareOfHousehold_X4_spentBy rfl rfl rfl (by decide +kernel) ⟨Nat.le_of_ble_eq_true rfl, Nat.le_of_ble_eq_true rfl⟩) hE hP hD hS hA _ f0_spd rfl rfl rfl rfl hl.1 (Nat.le_of_ble_eq_true rfl) dX4_shareOfHousehold_2 ⟨Nat.le_of_ble_eq_true rfl, Nat.le_of_ble_eq_true rfl⟩ (fun r_2 u_2 H locs hP hD hS q_2 => ?_)
  subst q_2
  refine lv_lstore_n (lv' := [(3, .long (lN (uS adp ((h) * 4) 4))), (0, .ref a_spd), (1, .int (nI (h))), (2, .int (nI (g)))]) hx hb dX4_shareOfHousehold_5 rfl hl (by decide) rfl (fun ls hl => ?_)
  refine lv_aload_n hx hb dX4_shareOfHousehold_6 rfl (lv_at hl 1 rfl) ?_
  refine va_get (D := D) (ci := 5) (v := .ref a_adp) (C := RX4) (T := TX4) (N := 3) hx hb hts in_RX4 hown hE.1 (gv1 hP f0_spd) 0 rfl rfl 1 (by decide) (hts (.fieldLink RX4 15 "BasketryOffice$Spendings" "adopted" "[I") (by decide +kernel)) (fun _ h9 => h9) rfl dX4_shareOfHousehold_7 ?_
  refine lv_iload_n hx hb dX4_shareOfHousehold_10 rfl (lv_at hl 2 rfl) ?_
  refine lv_iconst (v := nI 4) hx hb dX4_shareOfHousehold_11 (by decide) ?_
  refine g_imul hx hb dX4_shareOfHousehold_12 (pk_mul _ _) ?_
  refine lv_iload_n hx hb dX4_shareOfHousehold_13 rfl (lv_at hl 3 rfl) ?_
  refine g_iadd hx hb dX4_shareOfHousehold_14 (nI_add _ _) ?_
  refine g_nald hx hb hE hP _ f0_adp (by omega) (by decide) dX4_shareOfHousehold_15 ?_
  have bd_15_1 := b_adp ((h * 4) + g)
  refine lv_istore (lv' := [(5, .int (nI (adp ((h * 4) + g)))), (3, .long (lN (uS adp ((h) * 4) 4))), (0, .ref a_spd), (1, .int (nI (h))), (2, .int (nI (g)))]) hx hb dX4_shareOfHousehold_16 hl (by decide) rfl (fun ls hl => ?_)
  refine lv_lload_n hx hb dX4_shareOfHousehold_18 rfl (lv_at hl 1 rfl) ?_
  refine lv_lconst (v := lN 0) hx hb dX4_shareOfHousehold_19 (by decide) ?_
  refine g_lcmp_le (tgt := 33) hx hb (by have := uS_le b_adp (h * 4) 4; omega) (by decide) dX4_shareOfHousehold_20 dX4_shareOfHousehold_21 (by decide) (fun c_20 => ?_) (fun c_20 => ?_)
  · refine lv_ldc2d (v := 4598175219545276416) hx hb hown (hts (.constantDouble RX4 37 (4598175219545276416)) (by decide +kernel)) dX4_shareOfHousehold_33 ?_
    refine g_dret hx hb hr hlocks () dX4_shareOfHousehold_36 hS hP hD ?_
    rw [sShH, if_neg (by omega)]
  · refine lv_iload hx hb dX4_shareOfHousehold_24 (lv_at hl 0 rfl) ?_
    refine lv_i2d hx hb dX4_shareOfHousehold_26 ?_
    refine lv_lload_n hx hb dX4_shareOfHousehold_27 rfl (lv_at hl 1 rfl) ?_
    refine lv_l2d hx hb dX4_shareOfHousehold_28 ?_
    refine lv_ddiv hx hb dX4_shareOfHousehold_29 (fp_shareI _ (by omega) (by have := uS_le b_adp (h * 4) 4; omega)) ?_
    refine lv_goto (tgt := 36) hx hb dX4_shareOfHousehold_30 (by decide) ?_
    refine g_dret hx hb hr hlocks () dX4_shareOfHousehold_36 hS hP hD ?_
    rw [sShH, if_pos c_20]

theorem in_c_X4_shareOfAll_RX4 : ∀ w ∈ wsX40, w ∈ wsX4_shareOfAll := by decide +kernel
set_option maxHeartbeats 4000000 in
set_option maxRecDepth 100000 in
theorem c_X4_shareOfAll (l : Launch) {D : va_G} {y : Nat → Nat} {ws : va_W} {x_spd_0 : Value} {x_spd_2 : Value} {p_spd p_adp a_spd a_adp : Nat} {adp : Nat → Nat} {g : Nat} (f0_spd : ws[p_spd]? = some (a_spd, .inr (5, [x_spd_0, .ref a_adp, x_spd_2]))) (f0_adp : ws[p_adp]? = some (a_adp, eN y 12 adp)) (b_adp : ∀ k, adp k ≤ 1000000000) (hg : g < 4) : gMd l yX4_shareOfAll wsX4_shareOfAll ({ frames := 1, cells := 0, slots := 0, locals := 24 }) D y [.ref a_spd, .int (nI (g))] ws (fun r (_ : Unit) => r = sShA adp g) (fun (_ : Unit) => ws) := by
  refine g_met_d (cc := cX4_shareOfAll) (maxL := 7) (by decide) rfl (Nat.le_of_ble_eq_true rfl) ?_
  intro p e s m below meth c A hx hb hml hr hts hown hnm hlocks hE hP hD hS hA ls hl
  have hown : s.vm.findClass RX4 = some m.cls := hown
  have hl : lv_has ls 7 [(0, .ref a_spd), (1, .int (nI (g)))] := hl
  have in_RX4 := in_c_X4_shareOfAll_RX4
  refine lv_lconst (v := lN 0) hx hb dX4_shareOfAll_0 (by decide) ?_
  refine lv_lstore_n (lv' := [(2, .long (lN (0))), (0, .ref a_spd), (1, .int (nI (g)))]) hx hb dX4_shareOfAll_1 rfl hl (by decide) rfl (fun ls hl => ?_)
  refine lv_lconst (v := lN 0) hx hb dX4_shareOfAll_2 (by decide) ?_
  refine lv_lstore (lv' := [(4, .long (lN (0))), (2, .long (lN (0))), (0, .ref a_spd), (1, .int (nI (g)))]) hx hb dX4_shareOfAll_3 hl (by decide) rfl (fun ls hl => ?_)
  refine lv_iconst (v := nI 0) hx hb dX4_shareOfAll_5 (by decide) ?_
  refine lv_istore (lv' := [(6, .int (nI (0))), (4, .long (lN (0))), (2, .long (lN (0))), (0, .ref a_spd), (1, .int (nI (g)))]) hx hb dX4_shareOfAll_6 hl (by decide) rfl (fun ls hl => ?_)
  have hP : gvP D vwCl ws _ := g_trP (rfl) hP
  have hD : gvD A ws := g_trD (rfl) hD
  refine g_for (fun j => ws) (fun j => [(0, .ref a_spd), (1, .int (nI (g))), (2, .long (lN (vS adp g (j)))), (4, .long (lN (wS adp (j)))), (6, .int (nI (j)))]) (3) (0) (by omega) ?_ ?_ hP hD hS (lv_sub hl [3, 4, 2, 1, 0] rfl)
  · intro H locs ls hP hD hS hl
    have hP : gvP D vwCl ws H := hP
    have hD : gvD A ws := hD
    have hl : lv_has ls 7 [(0, .ref a_spd), (1, .int (nI (g))), (2, .long (lN (vS adp g (3)))), (4, .long (lN (wS adp (3)))), (6, .int (nI (3)))] := hl
    refine lv_iload hx hb dX4_shareOfAll_8 (lv_at hl 4 rfl) ?_
    refine lv_iconst (v := nI 3) hx hb dX4_shareOfAll_10 (by decide) ?_
    refine g_icmp_ge (tgt := 46) hx hb (by omega) (by omega) dX4_shareOfAll_11 (by decide) (fun c_11 => ?_) (fun c_11 => absurd c_11 (by omega))
    refine lv_lload hx hb dX4_shareOfAll_46 (lv_at hl 3 rfl) ?_
    refine lv_lconst (v := lN 0) hx hb dX4_shareOfAll_48 (by decide) ?_
    refine g_lcmp_le (tgt := 62) hx hb (by have := wS_le b_adp 3; omega) (by decide) dX4_shareOfAll_49 dX4_shareOfAll_50 (by decide) (fun c_49 => ?_) (fun c_49 => ?_)
    · refine lv_ldc2d (v := 4598175219545276416) hx hb hown (hts (.constantDouble RX4 37 (4598175219545276416)) (by decide +kernel)) dX4_shareOfAll_62 ?_
      refine g_dret hx hb hr hlocks () dX4_shareOfAll_65 hS hP hD ?_
      rw [sShA, if_neg (by omega)]
    · refine lv_lload_n hx hb dX4_shareOfAll_53 rfl (lv_at hl 2 rfl) ?_
      refine lv_l2d hx hb dX4_shareOfAll_54 ?_
      refine lv_lload hx hb dX4_shareOfAll_55 (lv_at hl 3 rfl) ?_
      refine lv_l2d hx hb dX4_shareOfAll_57 ?_
      refine lv_ddiv hx hb dX4_shareOfAll_58 (fp_shareL _ (by omega) (by have := wS_le b_adp 3; omega)) ?_
      refine lv_goto (tgt := 65) hx hb dX4_shareOfAll_59 (by decide) ?_
      refine g_dret hx hb hr hlocks () dX4_shareOfAll_65 hS hP hD ?_
      rw [sShA, if_pos c_49]
  · intro j hj_j ih_j H locs ls hP hD hS hl
    have hP : gvP D vwCl ws H := hP
    have hD : gvD A ws := hD
    have hl : lv_has ls 7 [(0, .ref a_spd), (1, .int (nI (g))), (2, .long (lN (vS adp g (j)))), (4, .long (lN (wS adp (j)))), (6, .int (nI (j)))] := hl
    refine lv_iload hx hb dX4_shareOfAll_8 (lv_at hl 4 rfl) ?_
    refine lv_iconst (v := nI 3) hx hb dX4_shareOfAll_10 (by decide) ?_
    refine g_icmp_ge (tgt := 46) hx hb (by omega) (by omega) dX4_shareOfAll_11 (by decide) (fun c_11 => absurd c_11 (by omega)) (fun c_11 => ?_)
    refine lv_lload_n hx hb dX4_shareOfAll_14 rfl (lv_at hl 2 rfl) ?_
    refine lv_aload_n hx hb dX4_shareOfAll_15 rfl (lv_at hl 0 rfl) ?_
    refine va_get (D := D) (ci := 5) (v := .ref a_adp) (C := RX4) (T := TX4) (N := 3) hx hb hts in_RX4 hown hE.1 (gv1 hP f0_spd) 0 rfl rfl 1 (by decide) (hts (.fieldLink RX4 15 "BasketryOffice$Spendings" "adopted" "[I") (by decide +kernel)) (fun _ h9 => h9) rfl dX4_shareOfAll_16 ?_
    refine lv_iload hx hb dX4_shareOfAll_19 (lv_at hl 4 rfl) ?_
    refine lv_iconst (v := nI 4) hx hb dX4_shareOfAll_21 (by decide) ?_
    refine g_imul hx hb dX4_shareOfAll_22 (pk_mul _ _) ?_
    refine lv_iload_n hx hb dX4_shareOfAll_23 rfl (lv_at hl 1 rfl) ?_
    refine g_iadd hx hb dX4_shareOfAll_24 (nI_add _ _) ?_
    refine g_nald hx hb hE hP _ f0_adp (by omega) (by decide) dX4_shareOfAll_25 ?_
    have bd_25_1 := b_adp ((j * 4) + g)
    refine lv_i2l (v := lN (adp ((j * 4) + g))) hx hb dX4_shareOfAll_26 (nI_l (by omega)) ?_
    refine g_ladd hx hb dX4_shareOfAll_27 (lN_add _ _) ?_
    refine lv_lstore_n (lv' := [(2, .long (lN ((vS adp g (j)) + (adp ((j * 4) + g))))), (0, .ref a_spd), (1, .int (nI (g))), (4, .long (lN (wS adp (j)))), (6, .int (nI (j)))]) hx hb dX4_shareOfAll_28 rfl hl (by decide) rfl (fun ls hl => ?_)
    refine lv_lload hx hb dX4_shareOfAll_29 (lv_at hl 3 rfl) ?_
    refine lv_aload_n hx hb dX4_shareOfAll_31 rfl (lv_at hl 1 rfl) ?_
    refine lv_iload hx hb dX4_shareOfAll_32 (lv_at hl 4 rfl) ?_
    refine gc_V_l (As := [.int (nI (j))]) (rest := [.long (lN (wS adp (j)))]) (c_X4_spentBy l f0_spd f0_adp b_adp (by omega)) ⟨hx, hb, hml, hown, hts⟩ (cwV 1 hts gX4_shareOfAll_X4_spentBy rfl rfl rfl (by decide +kernel) ⟨Nat.le_of_ble_eq_true rfl, Nat.le_of_ble_eq_true rfl⟩) hE hP hD hS hA _ f0_spd rfl rfl rfl rfl hl.1 (Nat.le_of_ble_eq_true rfl) dX4_shareOfAll_34 ⟨Nat.le_of_ble_eq_true rfl, Nat.le_of_ble_eq_true rfl⟩ (fun r_34 u_34 H locs hP hD hS q_34 => ?_)
    subst q_34
    refine g_ladd hx hb dX4_shareOfAll_37 (lN_add _ _) ?_
    refine lv_lstore (lv' := [(4, .long (lN ((wS adp (j)) + (uS adp ((j) * 4) 4)))), (2, .long (lN ((vS adp g (j)) + (adp ((j * 4) + g))))), (0, .ref a_spd), (1, .int (nI (g))), (6, .int (nI (j)))]) hx hb dX4_shareOfAll_38 hl (by decide) rfl (fun ls hl => ?_)
    refine lv_iinc (v := nI (j + 1)) (lv' := [(6, .int (nI (j + 1))), (4, .long (lN ((wS adp (j)) + (uS adp ((j) * 4) 4)))), (2, .long (lN ((vS adp g (j)) + (adp ((j * 4) + g))))), (0, .ref a_spd), (1, .int (nI (g)))]) hx hb dX4_shareOfAll_40 hl (k := 4) rfl (nI_add _ 1) (by decide) rfl (fun ls hl => ?_)
    refine lv_goto (tgt := 8) hx hb dX4_shareOfAll_43 (by decide) ?_
    have hP : gvP D vwCl ws _ := g_trP (rfl) hP
    have hD : gvD A ws := g_trD (rfl) hD
    exact ih_j H locs ls hP hD hS (lv_sub hl [3, 4, 2, 1, 0] rfl)

set_option maxHeartbeats 4000000 in
set_option maxRecDepth 100000 in
theorem c_X4_meanShare (l : Launch) {D : va_G} {y : Nat → Nat} {ws : va_W} {x_spd_0 : Value} {x_spd_2 : Value} {p_spd p_adp a_spd a_adp : Nat} {adp : Nat → Nat} {g : Nat} (f0_spd : ws[p_spd]? = some (a_spd, .inr (5, [x_spd_0, .ref a_adp, x_spd_2]))) (f0_adp : ws[p_adp]? = some (a_adp, eN y 12 adp)) (b_adp : ∀ k, adp k ≤ 1000000000) (hg : g < 4) (hnn : nnShM adp g) : gMd l yX4_meanShare wsX4_meanShare ({ frames := 2, cells := 0, slots := 0, locals := 49 }) D y [.ref a_spd, .int (nI (g))] ws (fun r (_ : Unit) => r = sShM adp g) (fun (_ : Unit) => ws) := by
  refine g_met_d (cc := cX4_meanShare) (maxL := 6) (by decide) rfl (Nat.le_of_ble_eq_true rfl) ?_
  intro p e s m below meth c A hx hb hml hr hts hown hnm hlocks hE hP hD hS hA ls hl
  have hown : s.vm.findClass RX4 = some m.cls := hown
  have hl : lv_has ls 6 [(0, .ref a_spd), (1, .int (nI (g)))] := hl
  refine g_dconst0 hx hb dX4_meanShare_0 ?_
  refine lv_dstore_n (lv' := [(2, .double 0), (0, .ref a_spd), (1, .int (nI (g)))]) hx hb dX4_meanShare_1 rfl hl (by decide) rfl (fun ls hl => ?_)
  refine lv_iconst (v := nI 0) hx hb dX4_meanShare_2 (by decide) ?_
  refine lv_istore (lv' := [(4, .int (nI (0))), (2, .double 0), (0, .ref a_spd), (1, .int (nI (g)))]) hx hb dX4_meanShare_3 hl (by decide) rfl (fun ls hl => ?_)
  refine lv_iconst (v := nI 0) hx hb dX4_meanShare_5 (by decide) ?_
  refine lv_istore (lv' := [(5, .int (nI (0))), (4, .int (nI (0))), (2, .double 0), (0, .ref a_spd), (1, .int (nI (g)))]) hx hb dX4_meanShare_6 hl (by decide) rfl (fun ls hl => ?_)
  have hP : gvP D vwCl ws _ := g_trP (rfl) hP
  have hD : gvD A ws := g_trD (rfl) hD
  refine g_for (fun j => ws) (fun j => [(0, .ref a_spd), (1, .int (nI (g))), (2, .double (mhS adp g (j))), (4, .int (nI (mhN adp (j)))), (5, .int (nI (j)))]) (3) (0) (by omega) ?_ ?_ hP hD hS (lv_sub hl [3, 4, 2, 1, 0] rfl)
  · intro H locs ls hP hD hS hl
    have hP : gvP D vwCl ws H := hP
    have hD : gvD A ws := hD
    have hl : lv_has ls 6 [(0, .ref a_spd), (1, .int (nI (g))), (2, .double (mhS adp g (3))), (4, .int (nI (mhN adp (3)))), (5, .int (nI (3)))] := hl
    refine lv_iload hx hb dX4_meanShare_8 (lv_at hl 4 rfl) ?_
    refine lv_iconst (v := nI 3) hx hb dX4_meanShare_10 (by decide) ?_
    refine g_icmp_ge (tgt := 44) hx hb (by omega) (by omega) dX4_meanShare_11 (by decide) (fun c_11 => ?_) (fun c_11 => absurd c_11 (by omega))
    refine lv_iload hx hb dX4_meanShare_44 (lv_at hl 3 rfl) ?_
    refine g_if_le (tgt := 57) hx hb (by have := mhN_le adp 3; omega) dX4_meanShare_46 (by decide) (fun c_46 => ?_) (fun c_46 => ?_)
    · refine lv_ldc2d (v := 4598175219545276416) hx hb hown (hts (.constantDouble RX4 37 (4598175219545276416)) (by decide +kernel)) dX4_meanShare_57 ?_
      refine g_dret hx hb hr hlocks () dX4_meanShare_60 hS hP hD ?_
      rw [sShM, if_neg (by omega)]
    · refine lv_dload_n hx hb dX4_meanShare_49 rfl (lv_at hl 2 rfl) ?_
      refine lv_iload hx hb dX4_meanShare_50 (lv_at hl 3 rfl) ?_
      refine lv_i2d hx hb dX4_meanShare_52 ?_
      refine lv_ddiv hx hb dX4_meanShare_53 (hnn.2 c_46) ?_
      refine lv_goto (tgt := 60) hx hb dX4_meanShare_54 (by decide) ?_
      refine g_dret hx hb hr hlocks () dX4_meanShare_60 hS hP hD ?_
      rw [sShM, if_pos c_46]
  · intro j hj_j ih_j H locs ls hP hD hS hl
    have hP : gvP D vwCl ws H := hP
    have hD : gvD A ws := hD
    have hl : lv_has ls 6 [(0, .ref a_spd), (1, .int (nI (g))), (2, .double (mhS adp g (j))), (4, .int (nI (mhN adp (j)))), (5, .int (nI (j)))] := hl
    refine lv_iload hx hb dX4_meanShare_8 (lv_at hl 4 rfl) ?_
    refine lv_iconst (v := nI 3) hx hb dX4_meanShare_10 (by decide) ?_
    refine g_icmp_ge (tgt := 44) hx hb (by omega) (by omega) dX4_meanShare_11 (by decide) (fun c_11 => absurd c_11 (by omega)) (fun c_11 => ?_)
    refine lv_aload_n hx hb dX4_meanShare_14 rfl (lv_at hl 0 rfl) ?_
    refine lv_iload hx hb dX4_meanShare_15 (lv_at hl 4 rfl) ?_
    refine gc_V_l (As := [.int (nI (j))]) (rest := []) (c_X4_spentBy l f0_spd f0_adp b_adp (by omega)) ⟨hx, hb, hml, hown, hts⟩ (cwV 1 hts gX4_meanShare_X4_spentBy rfl rfl rfl (by decide +kernel) ⟨Nat.le_of_ble_eq_true rfl, Nat.le_of_ble_eq_true rfl⟩) hE hP hD hS hA _ f0_spd rfl rfl rfl rfl hl.1 (Nat.le_of_ble_eq_true rfl) dX4_meanShare_17 ⟨Nat.le_of_ble_eq_true rfl, Nat.le_of_ble_eq_true rfl⟩ (fun r_17 u_17 H locs hP hD hS q_17 => ?_)
    subst q_17
    refine lv_lconst (v := lN 0) hx hb dX4_meanShare_20 (by decide) ?_
    refine g_lcmp_le (tgt := 38) hx hb (by have := uS_le b_adp (j * 4) 4; omega) (by decide) dX4_meanShare_21 dX4_meanShare_22 (by decide) (fun c_21 => ?_) (fun c_21 => ?_)
    · refine lv_iinc (v := nI (j + 1)) (lv' := [(5, .int (nI (j + 1))), (0, .ref a_spd), (1, .int (nI (g))), (2, .double (mhS adp g (j))), (4, .int (nI (mhN adp (j))))]) hx hb dX4_meanShare_38 hl (k := 4) rfl (nI_add _ 1) (by decide) rfl (fun ls hl => ?_)
      refine lv_goto (tgt := 8) hx hb dX4_meanShare_41 (by decide) ?_
      have hP : gvP D vwCl ws _ := g_trP (rfl) hP
      have hD : gvD A ws := g_trD (rfl) hD
      exact ih_j H locs ls hP hD hS (lv_sub hl [1, 2, 3, 4, 0] (by rw [mhS, mhN, if_neg (by omega), if_neg (by omega)]; rfl))
    · refine lv_dload_n hx hb dX4_meanShare_25 rfl (lv_at hl 2 rfl) ?_
      refine lv_aload_n hx hb dX4_meanShare_26 rfl (lv_at hl 0 rfl) ?_
      refine lv_iload hx hb dX4_meanShare_27 (lv_at hl 4 rfl) ?_
      refine lv_iload_n hx hb dX4_meanShare_29 rfl (lv_at hl 1 rfl) ?_
      refine gc_V_d (As := [.int (nI (j)), .int (nI (g))]) (rest := [.double (mhS adp g (j))]) (c_X4_shareOfHousehold l f0_spd f0_adp b_adp (by omega) (by omega)) ⟨hx, hb, hml, hown, hts⟩ (cwV 2 hts gX4_meanShare_X4_shareOfHousehold rfl rfl rfl (by decide +kernel) ⟨Nat.le_of_ble_eq_true rfl, Nat.le_of_ble_eq_true rfl⟩) hE hP hD hS hA _ f0_spd rfl rfl rfl rfl hl.1 (Nat.le_of_ble_eq_true rfl) dX4_meanShare_30 ⟨Nat.le_of_ble_eq_true rfl, Nat.le_of_ble_eq_true rfl⟩ (fun r_30 u_30 H locs hP hD hS q_30 => ?_)
      subst q_30
      refine lv_dadd hx hb dX4_meanShare_33 (hnn.1 j hj_j) ?_
      refine lv_dstore_n (lv' := [(2, .double (FP.dadd (mhS adp g (j)) (sShH adp (j) (g)))), (0, .ref a_spd), (1, .int (nI (g))), (4, .int (nI (mhN adp (j)))), (5, .int (nI (j)))]) hx hb dX4_meanShare_34 rfl hl (by decide) rfl (fun ls hl => ?_)
      refine lv_iinc (v := nI (mhN adp (j) + 1)) (lv' := [(4, .int (nI (mhN adp (j) + 1))), (2, .double (FP.dadd (mhS adp g (j)) (sShH adp (j) (g)))), (0, .ref a_spd), (1, .int (nI (g))), (5, .int (nI (j)))]) hx hb dX4_meanShare_35 hl (k := 3) rfl (nI_add _ 1) (by decide) rfl (fun ls hl => ?_)
      refine lv_iinc (v := nI (j + 1)) (lv' := [(5, .int (nI (j + 1))), (4, .int (nI (mhN adp (j) + 1))), (2, .double (FP.dadd (mhS adp g (j)) (sShH adp (j) (g)))), (0, .ref a_spd), (1, .int (nI (g)))]) hx hb dX4_meanShare_38 hl (k := 4) rfl (nI_add _ 1) (by decide) rfl (fun ls hl => ?_)
      refine lv_goto (tgt := 8) hx hb dX4_meanShare_41 (by decide) ?_
      have hP : gvP D vwCl ws _ := g_trP (rfl) hP
      have hD : gvD A ws := g_trD (rfl) hD
      exact ih_j H locs ls hP hD hS (lv_sub hl [3, 4, 2, 1, 0] (by rw [mhS, mhN, if_pos c_21, if_pos c_21]; rfl))

theorem in_c_X4_settleShares_RX4 : ∀ w ∈ wsX40, w ∈ wsX4_settleShares := by decide +kernel
set_option maxHeartbeats 4000000 in
set_option maxRecDepth 100000 in
theorem c_X4_settleShares (l : Launch) {D : va_G} {y : Nat → Nat} {ws : va_W} {x_spd_0 : Value} {p_spd p_adp p_shr a_spd a_adp a_shr : Nat} {adp : Nat → Nat} {shr : Nat → UInt64} {t : Nat} (f0_spd : ws[p_spd]? = some (a_spd, .inr (5, [x_spd_0, .ref a_adp, .ref a_shr]))) (f0_adp : ws[p_adp]? = some (a_adp, eN y 12 adp)) (f0_shr : ws[p_shr]? = some (a_shr, eD y 480 shr)) (b_adp : ∀ k, adp k ≤ 1000000000) (ht : t < 24) (hnn : ∀ g, g < 4 → nnShM adp g) : gMv l yX4_settleShares wsX4_settleShares ({ frames := 3, cells := 0, slots := 0, locals := 74 }) D y [.ref a_spd, .int (nI (t))] ws (fun (_ : Unit) => True) (fun (_ : Unit) => (ws.set p_shr (a_shr, eD y 480 (shF adp t shr (4))))) := by
  refine g_met_v (cc := cX4_settleShares) (maxL := 5) (by decide) rfl (Nat.le_of_ble_eq_true rfl) ?_
  intro p e s m below meth c A hx hb hml hr hts hown hnm hlocks hE hP hD hS hA ls hl
  have hown : s.vm.findClass RX4 = some m.cls := hown
  have hl : lv_has ls 5 [(0, .ref a_spd), (1, .int (nI (t)))] := hl
  have in_RX4 := in_c_X4_settleShares_RX4
  refine lv_iconst (v := nI 0) hx hb dX4_settleShares_0 (by decide) ?_
  refine lv_istore_n (lv' := [(2, .int (nI (0))), (0, .ref a_spd), (1, .int (nI (t)))]) hx hb dX4_settleShares_1 rfl hl (by decide) rfl (fun ls hl => ?_)
  have hP := g_trP (g_same f0_shr) hP
  have hD := g_trD (g_same f0_shr) hD
  have f_spd := g_ne (x := (a_shr, eD y 480 shr)) (g_kne f0_shr f0_spd (Nat.ne_of_beq_eq_false rfl)) (f0_spd)
  have f_adp := g_ne (x := (a_shr, eD y 480 shr)) (g_kne f0_shr f0_adp (Nat.ne_of_beq_eq_false rfl)) (f0_adp)
  have f_shr := g_eq (x := (a_shr, eD y 480 shr)) (f0_shr)
  have hP : gvP D vwCl (ws.set p_shr (a_shr, eD y 480 (shF adp t shr (0)))) _ := g_trP (rfl) hP
  have hD : gvD A (ws.set p_shr (a_shr, eD y 480 (shF adp t shr (0)))) := g_trD (rfl) hD
  refine g_for (fun g => (ws.set p_shr (a_shr, eD y 480 (shF adp t shr (g))))) (fun g => [(0, .ref a_spd), (1, .int (nI (t))), (2, .int (nI (g)))]) (4) (0) (by omega) ?_ ?_ hP hD hS (lv_sub hl [1, 2, 0] rfl)
  · intro H locs ls hP hD hS hl
    have hP : gvP D vwCl (ws.set p_shr (a_shr, eD y 480 (shF adp t shr (4)))) H := hP
    have hD : gvD A (ws.set p_shr (a_shr, eD y 480 (shF adp t shr (4)))) := hD
    have hl : lv_has ls 5 [(0, .ref a_spd), (1, .int (nI (t))), (2, .int (nI (4)))] := hl
    have f_spd := g_ne (x := (a_shr, eD y 480 (shF adp t shr (4)))) (g_kne f0_shr f0_spd (Nat.ne_of_beq_eq_false rfl)) (f0_spd)
    have f_adp := g_ne (x := (a_shr, eD y 480 (shF adp t shr (4)))) (g_kne f0_shr f0_adp (Nat.ne_of_beq_eq_false rfl)) (f0_adp)
    have f_shr := g_eq (x := (a_shr, eD y 480 (shF adp t shr (4)))) (f0_shr)
    refine lv_iload_n hx hb dX4_settleShares_2 rfl (lv_at hl 2 rfl) ?_
    refine lv_iconst (v := nI 4) hx hb dX4_settleShares_3 (by decide) ?_
    refine g_icmp_ge (tgt := 80) hx hb (by omega) (by omega) dX4_settleShares_4 (by decide) (fun c_4 => ?_) (fun c_4 => absurd c_4 (by omega))
    refine g_vret hx hb hr hlocks () dX4_settleShares_80 hS hP hD ?_
    exact trivial
  · intro g hj_g ih_g H locs ls hP hD hS hl
    have hP : gvP D vwCl (ws.set p_shr (a_shr, eD y 480 (shF adp t shr (g)))) H := hP
    have hD : gvD A (ws.set p_shr (a_shr, eD y 480 (shF adp t shr (g)))) := hD
    have hl : lv_has ls 5 [(0, .ref a_spd), (1, .int (nI (t))), (2, .int (nI (g)))] := hl
    have f_spd := g_ne (x := (a_shr, eD y 480 (shF adp t shr (g)))) (g_kne f0_shr f0_spd (Nat.ne_of_beq_eq_false rfl)) (f0_spd)
    have f_adp := g_ne (x := (a_shr, eD y 480 (shF adp t shr (g)))) (g_kne f0_shr f0_adp (Nat.ne_of_beq_eq_false rfl)) (f0_adp)
    have f_shr := g_eq (x := (a_shr, eD y 480 (shF adp t shr (g)))) (f0_shr)
    refine lv_iload_n hx hb dX4_settleShares_2 rfl (lv_at hl 2 rfl) ?_
    refine lv_iconst (v := nI 4) hx hb dX4_settleShares_3 (by decide) ?_
    refine g_icmp_ge (tgt := 80) hx hb (by omega) (by omega) dX4_settleShares_4 (by decide) (fun c_4 => absurd c_4 (by omega)) (fun c_4 => ?_)
    refine lv_iload_n hx hb dX4_settleShares_7 rfl (lv_at hl 1 rfl) ?_
    refine lv_iconst (v := nI 5) hx hb dX4_settleShares_8 (by decide) ?_
    refine g_imul hx hb dX4_settleShares_9 (pk_mul _ _) ?_
    refine lv_iconst (v := nI 4) hx hb dX4_settleShares_10 (by decide) ?_
    refine g_imul hx hb dX4_settleShares_11 (pk_mul _ _) ?_
    refine lv_iload_n hx hb dX4_settleShares_12 rfl (lv_at hl 2 rfl) ?_
    refine g_iadd hx hb dX4_settleShares_13 (nI_add _ _) ?_
    refine lv_istore_n (lv' := [(3, .int (nI (((t * 5) * 4) + g))), (0, .ref a_spd), (1, .int (nI (t))), (2, .int (nI (g)))]) hx hb dX4_settleShares_14 rfl hl (by decide) rfl (fun ls hl => ?_)
    refine lv_aload_n hx hb dX4_settleShares_15 rfl (lv_at hl 1 rfl) ?_
    refine va_get (D := D) (ci := 5) (v := .ref a_shr) (C := RX4) (T := TX4) (N := 3) hx hb hts in_RX4 hown hE.1 (gv1 hP f_spd) 0 rfl rfl 2 (by decide) (hts (.fieldLink RX4 18 "BasketryOffice$Spendings" "shares" "[D") (by decide +kernel)) (fun _ h9 => h9) rfl dX4_settleShares_16 ?_
    refine lv_iload_n hx hb dX4_settleShares_19 rfl (lv_at hl 0 rfl) ?_
    refine lv_aload_n hx hb dX4_settleShares_20 rfl (lv_at hl 1 rfl) ?_
    refine lv_iload_n hx hb dX4_settleShares_21 rfl (lv_at hl 3 rfl) ?_
    refine gc_V_d (As := [.int (nI (g))]) (rest := [.int (nI (((t * 5) * 4) + g)), .ref a_shr]) (c_X4_shareOfAll l f_spd f_adp b_adp (by omega)) ⟨hx, hb, hml, hown, hts⟩ (cwV 1 hts gX4_settleShares_X4_shareOfAll rfl rfl rfl (by decide +kernel) ⟨Nat.le_of_ble_eq_true rfl, Nat.le_of_ble_eq_true rfl⟩) hE hP hD hS hA _ f_spd rfl rfl rfl rfl hl.1 (Nat.le_of_ble_eq_true rfl) dX4_settleShares_22 ⟨Nat.le_of_ble_eq_true rfl, Nat.le_of_ble_eq_true rfl⟩ (fun r_22 u_22 H locs hP hD hS q_22 => ?_)
    subst q_22
    refine g_dast hx hb hE hP hD hS _ f_shr (by omega) (by decide) dX4_settleShares_25 (fun H locs hP hD hS => ?_)
    have hP := g_trP g_ss hP
    have hD := g_trD g_ss hD
    have f_spd := g_ne (x := (a_shr, eD y 480 (vf_upd (shF adp t shr (g)) (((t * 5) * 4) + g) (sShA adp (g))))) (g_kne f0_shr f0_spd (Nat.ne_of_beq_eq_false rfl)) (f0_spd)
    have f_adp := g_ne (x := (a_shr, eD y 480 (vf_upd (shF adp t shr (g)) (((t * 5) * 4) + g) (sShA adp (g))))) (g_kne f0_shr f0_adp (Nat.ne_of_beq_eq_false rfl)) (f0_adp)
    have f_shr := g_eq (x := (a_shr, eD y 480 (vf_upd (shF adp t shr (g)) (((t * 5) * 4) + g) (sShA adp (g))))) (f0_shr)
    refine lv_aload_n hx hb dX4_settleShares_26 rfl (lv_at hl 1 rfl) ?_
    refine va_get (D := D) (ci := 5) (v := .ref a_shr) (C := RX4) (T := TX4) (N := 3) hx hb hts in_RX4 hown hE.1 (gv1 hP f_spd) 0 rfl rfl 2 (by decide) (hts (.fieldLink RX4 18 "BasketryOffice$Spendings" "shares" "[D") (by decide +kernel)) (fun _ h9 => h9) rfl dX4_settleShares_27 ?_
    refine lv_iload_n hx hb dX4_settleShares_30 rfl (lv_at hl 0 rfl) ?_
    refine lv_iconst (v := nI 4) hx hb dX4_settleShares_31 (by decide) ?_
    refine g_iadd hx hb dX4_settleShares_32 (nI_add _ _) ?_
    refine lv_aload_n hx hb dX4_settleShares_33 rfl (lv_at hl 1 rfl) ?_
    refine lv_iload_n hx hb dX4_settleShares_34 rfl (lv_at hl 3 rfl) ?_
    refine gc_V_d (As := [.int (nI (g))]) (rest := [.int (nI ((((t * 5) * 4) + g) + 4)), .ref a_shr]) (c_X4_meanShare l f_spd f_adp b_adp hj_g (hnn g hj_g)) ⟨hx, hb, hml, hown, hts⟩ (cwV 1 hts gX4_settleShares_X4_meanShare rfl rfl rfl (by decide +kernel) ⟨Nat.le_of_ble_eq_true rfl, Nat.le_of_ble_eq_true rfl⟩) hE hP hD hS hA _ f_spd rfl rfl rfl rfl hl.1 (Nat.le_of_ble_eq_true rfl) dX4_settleShares_35 ⟨Nat.le_of_ble_eq_true rfl, Nat.le_of_ble_eq_true rfl⟩ (fun r_35 u_35 H locs hP hD hS q_35 => ?_)
    subst q_35
    refine g_dast hx hb hE hP hD hS _ f_shr (by omega) (by decide) dX4_settleShares_38 (fun H locs hP hD hS => ?_)
    have hP := g_trP g_ss hP
    have hD := g_trD g_ss hD
    have f_spd := g_ne (x := (a_shr, eD y 480 (vf_upd (vf_upd (shF adp t shr (g)) (((t * 5) * 4) + g) (sShA adp (g))) ((((t * 5) * 4) + g) + 4) (sShM adp (g))))) (g_kne f0_shr f0_spd (Nat.ne_of_beq_eq_false rfl)) (f0_spd)
    have f_adp := g_ne (x := (a_shr, eD y 480 (vf_upd (vf_upd (shF adp t shr (g)) (((t * 5) * 4) + g) (sShA adp (g))) ((((t * 5) * 4) + g) + 4) (sShM adp (g))))) (g_kne f0_shr f0_adp (Nat.ne_of_beq_eq_false rfl)) (f0_adp)
    have f_shr := g_eq (x := (a_shr, eD y 480 (vf_upd (vf_upd (shF adp t shr (g)) (((t * 5) * 4) + g) (sShA adp (g))) ((((t * 5) * 4) + g) + 4) (sShM adp (g))))) (f0_shr)
    refine lv_iconst (v := nI 0) hx hb dX4_settleShares_39 (by decide) ?_
    refine lv_istore (lv' := [(4, .int (nI (0))), (3, .int (nI (((t * 5) * 4) + g))), (0, .ref a_spd), (1, .int (nI (t))), (2, .int (nI (g)))]) hx hb dX4_settleShares_40 hl (by decide) rfl (fun ls hl => ?_)
    have hP : gvP D vwCl (ws.set p_shr (a_shr, eD y 480 (hF adp t g (vf_upd (vf_upd (shF adp t shr (g)) (t * 5 * 4 + g) (sShA adp g)) (t * 5 * 4 + g + 4) (sShM adp g)) (0)))) _ := g_trP (rfl) hP
    have hD : gvD A (ws.set p_shr (a_shr, eD y 480 (hF adp t g (vf_upd (vf_upd (shF adp t shr (g)) (t * 5 * 4 + g) (sShA adp g)) (t * 5 * 4 + g + 4) (sShM adp g)) (0)))) := g_trD (rfl) hD
    refine g_for (fun h => (ws.set p_shr (a_shr, eD y 480 (hF adp t g (vf_upd (vf_upd (shF adp t shr (g)) (t * 5 * 4 + g) (sShA adp g)) (t * 5 * 4 + g + 4) (sShM adp g)) (h))))) (fun h => [(0, .ref a_spd), (1, .int (nI (t))), (2, .int (nI (g))), (3, .int (nI (((t * 5) * 4) + g))), (4, .int (nI (h)))]) (3) (0) (by omega) ?_ ?_ hP hD hS (lv_sub hl [2, 3, 4, 1, 0] rfl)
    · intro H locs ls hP hD hS hl
      have hP : gvP D vwCl (ws.set p_shr (a_shr, eD y 480 (hF adp t g (vf_upd (vf_upd (shF adp t shr (g)) (t * 5 * 4 + g) (sShA adp g)) (t * 5 * 4 + g + 4) (sShM adp g)) (3)))) H := hP
      have hD : gvD A (ws.set p_shr (a_shr, eD y 480 (hF adp t g (vf_upd (vf_upd (shF adp t shr (g)) (t * 5 * 4 + g) (sShA adp g)) (t * 5 * 4 + g + 4) (sShM adp g)) (3)))) := hD
      have hl : lv_has ls 5 [(0, .ref a_spd), (1, .int (nI (t))), (2, .int (nI (g))), (3, .int (nI (((t * 5) * 4) + g))), (4, .int (nI (3)))] := hl
      have f_spd := g_ne (x := (a_shr, eD y 480 (hF adp t g (vf_upd (vf_upd (shF adp t shr (g)) (t * 5 * 4 + g) (sShA adp g)) (t * 5 * 4 + g + 4) (sShM adp g)) (3)))) (g_kne f0_shr f0_spd (Nat.ne_of_beq_eq_false rfl)) (f0_spd)
      have f_adp := g_ne (x := (a_shr, eD y 480 (hF adp t g (vf_upd (vf_upd (shF adp t shr (g)) (t * 5 * 4 + g) (sShA adp g)) (t * 5 * 4 + g + 4) (sShM adp g)) (3)))) (g_kne f0_shr f0_adp (Nat.ne_of_beq_eq_false rfl)) (f0_adp)
      have f_shr := g_eq (x := (a_shr, eD y 480 (hF adp t g (vf_upd (vf_upd (shF adp t shr (g)) (t * 5 * 4 + g) (sShA adp g)) (t * 5 * 4 + g + 4) (sShM adp g)) (3)))) (f0_shr)
      refine lv_iload hx hb dX4_settleShares_42 (lv_at hl 4 rfl) ?_
      refine lv_iconst (v := nI 3) hx hb dX4_settleShares_44 (by decide) ?_
      refine g_icmp_ge (tgt := 74) hx hb (by omega) (by omega) dX4_settleShares_45 (by decide) (fun c_45 => ?_) (fun c_45 => absurd c_45 (by omega))
      refine lv_iinc (v := nI (g + 1)) (lv' := [(2, .int (nI (g + 1))), (0, .ref a_spd), (1, .int (nI (t))), (3, .int (nI (((t * 5) * 4) + g))), (4, .int (nI (3)))]) hx hb dX4_settleShares_74 hl (k := 2) rfl (nI_add _ 1) (by decide) rfl (fun ls hl => ?_)
      refine lv_goto (tgt := 2) hx hb dX4_settleShares_77 (by decide) ?_
      have hP : gvP D vwCl (ws.set p_shr (a_shr, eD y 480 (shF adp t shr (g + 1)))) _ := g_trP (rfl) hP
      have hD : gvD A (ws.set p_shr (a_shr, eD y 480 (shF adp t shr (g + 1)))) := g_trD (rfl) hD
      exact ih_g H locs ls hP hD hS (lv_sub hl [1, 2, 0] rfl)
    · intro h hj_h ih_h H locs ls hP hD hS hl
      have hP : gvP D vwCl (ws.set p_shr (a_shr, eD y 480 (hF adp t g (vf_upd (vf_upd (shF adp t shr (g)) (t * 5 * 4 + g) (sShA adp g)) (t * 5 * 4 + g + 4) (sShM adp g)) (h)))) H := hP
      have hD : gvD A (ws.set p_shr (a_shr, eD y 480 (hF adp t g (vf_upd (vf_upd (shF adp t shr (g)) (t * 5 * 4 + g) (sShA adp g)) (t * 5 * 4 + g + 4) (sShM adp g)) (h)))) := hD
      have hl : lv_has ls 5 [(0, .ref a_spd), (1, .int (nI (t))), (2, .int (nI (g))), (3, .int (nI (((t * 5) * 4) + g))), (4, .int (nI (h)))] := hl
      have f_spd := g_ne (x := (a_shr, eD y 480 (hF adp t g (vf_upd (vf_upd (shF adp t shr (g)) (t * 5 * 4 + g) (sShA adp g)) (t * 5 * 4 + g + 4) (sShM adp g)) (h)))) (g_kne f0_shr f0_spd (Nat.ne_of_beq_eq_false rfl)) (f0_spd)
      have f_adp := g_ne (x := (a_shr, eD y 480 (hF adp t g (vf_upd (vf_upd (shF adp t shr (g)) (t * 5 * 4 + g) (sShA adp g)) (t * 5 * 4 + g + 4) (sShM adp g)) (h)))) (g_kne f0_shr f0_adp (Nat.ne_of_beq_eq_false rfl)) (f0_adp)
      have f_shr := g_eq (x := (a_shr, eD y 480 (hF adp t g (vf_upd (vf_upd (shF adp t shr (g)) (t * 5 * 4 + g) (sShA adp g)) (t * 5 * 4 + g + 4) (sShM adp g)) (h)))) (f0_shr)
      refine lv_iload hx hb dX4_settleShares_42 (lv_at hl 4 rfl) ?_
      refine lv_iconst (v := nI 3) hx hb dX4_settleShares_44 (by decide) ?_
      refine g_icmp_ge (tgt := 74) hx hb (by omega) (by omega) dX4_settleShares_45 (by decide) (fun c_45 => absurd c_45 (by omega)) (fun c_45 => ?_)
      refine lv_aload_n hx hb dX4_settleShares_48 rfl (lv_at hl 0 rfl) ?_
      refine va_get (D := D) (ci := 5) (v := .ref a_shr) (C := RX4) (T := TX4) (N := 3) hx hb hts in_RX4 hown hE.1 (gv1 hP f_spd) 0 rfl rfl 2 (by decide) (hts (.fieldLink RX4 18 "BasketryOffice$Spendings" "shares" "[D") (by decide +kernel)) (fun _ h9 => h9) rfl dX4_settleShares_49 ?_
      refine lv_iload_n hx hb dX4_settleShares_52 rfl (lv_at hl 3 rfl) ?_
      refine lv_iconst (v := nI 2) hx hb dX4_settleShares_53 (by decide) ?_
      refine lv_iload hx hb dX4_settleShares_54 (lv_at hl 4 rfl) ?_
      refine g_iadd hx hb dX4_settleShares_56 (nI_add _ _) ?_
      refine lv_iconst (v := nI 4) hx hb dX4_settleShares_57 (by decide) ?_
      refine g_imul hx hb dX4_settleShares_58 (pk_mul _ _) ?_
      refine g_iadd hx hb dX4_settleShares_59 (nI_add _ _) ?_
      refine lv_aload_n hx hb dX4_settleShares_60 rfl (lv_at hl 0 rfl) ?_
      refine lv_iload hx hb dX4_settleShares_61 (lv_at hl 4 rfl) ?_
      refine lv_iload_n hx hb dX4_settleShares_63 rfl (lv_at hl 2 rfl) ?_
      refine gc_V_d (As := [.int (nI (h)), .int (nI (g))]) (rest := [.int (nI ((((t * 5) * 4) + g) + ((2 + h) * 4))), .ref a_shr]) (c_X4_shareOfHousehold l f_spd f_adp b_adp (by omega) (by omega)) ⟨hx, hb, hml, hown, hts⟩ (cwV 2 hts gX4_settleShares_X4_shareOfHousehold rfl rfl rfl (by decide +kernel) ⟨Nat.le_of_ble_eq_true rfl, Nat.le_of_ble_eq_true rfl⟩) hE hP hD hS hA _ f_spd rfl rfl rfl rfl hl.1 (Nat.le_of_ble_eq_true rfl) dX4_settleShares_64 ⟨Nat.le_of_ble_eq_true rfl, Nat.le_of_ble_eq_true rfl⟩ (fun r_64 u_64 H locs hP hD hS q_64 => ?_)
      subst q_64
      refine g_dast hx hb hE hP hD hS _ f_shr (by omega) (by decide) dX4_settleShares_67 (fun H locs hP hD hS => ?_)
      have hP := g_trP g_ss hP
      have hD := g_trD g_ss hD
      have f_spd := g_ne (x := (a_shr, eD y 480 (vf_upd (hF adp t g (vf_upd (vf_upd (shF adp t shr (g)) (t * 5 * 4 + g) (sShA adp g)) (t * 5 * 4 + g + 4) (sShM adp g)) (h)) ((((t * 5) * 4) + g) + ((2 + h) * 4)) (sShH adp (h) (g))))) (g_kne f0_shr f0_spd (Nat.ne_of_beq_eq_false rfl)) (f0_spd)
      have f_adp := g_ne (x := (a_shr, eD y 480 (vf_upd (hF adp t g (vf_upd (vf_upd (shF adp t shr (g)) (t * 5 * 4 + g) (sShA adp g)) (t * 5 * 4 + g + 4) (sShM adp g)) (h)) ((((t * 5) * 4) + g) + ((2 + h) * 4)) (sShH adp (h) (g))))) (g_kne f0_shr f0_adp (Nat.ne_of_beq_eq_false rfl)) (f0_adp)
      have f_shr := g_eq (x := (a_shr, eD y 480 (vf_upd (hF adp t g (vf_upd (vf_upd (shF adp t shr (g)) (t * 5 * 4 + g) (sShA adp g)) (t * 5 * 4 + g + 4) (sShM adp g)) (h)) ((((t * 5) * 4) + g) + ((2 + h) * 4)) (sShH adp (h) (g))))) (f0_shr)
      refine lv_iinc (v := nI (h + 1)) (lv' := [(4, .int (nI (h + 1))), (0, .ref a_spd), (1, .int (nI (t))), (2, .int (nI (g))), (3, .int (nI (((t * 5) * 4) + g)))]) hx hb dX4_settleShares_68 hl (k := 4) rfl (nI_add _ 1) (by decide) rfl (fun ls hl => ?_)
      refine lv_goto (tgt := 42) hx hb dX4_settleShares_71 (by decide) ?_
      have hP : gvP D vwCl (ws.set p_shr (a_shr, eD y 480 (hF adp t g (vf_upd (vf_upd (shF adp t shr (g)) (t * 5 * 4 + g) (sShA adp g)) (t * 5 * 4 + g + 4) (sShM adp g)) (h + 1)))) _ := g_trP (rfl) hP
      have hD : gvD A (ws.set p_shr (a_shr, eD y 480 (hF adp t g (vf_upd (vf_upd (shF adp t shr (g)) (t * 5 * 4 + g) (sShA adp g)) (t * 5 * 4 + g + 4) (sShM adp g)) (h + 1)))) := g_trD (rfl) hD
      exact ih_h H locs ls hP hD hS (lv_sub hl [1, 2, 3, 4, 0] rfl)
