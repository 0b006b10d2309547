theorem in_c_X7_prices_RX7 : ∀ w ∈ wsX70, w ∈ wsX7_prices := by decide +kernel
set_option maxHeartbeats 4000000 in
set_option maxRecDepth 100000 in
theorem c_X7_prices (l : Launch) {D : va_G} {y : Nat → Nat} {ws : va_W} {x_mod_0 : Value} {x_mod_1 : Value} {x_mod_2 : Value} {x_mod_4 : Value} {x_mod_5 : Value} {x_mod_6 : Value} {x_mod_7 : Value} {x_mod_14 : Value} {x_mod_15 : Value} {x_mod_16 : Value} {x_mod_20 : Value} {x_mod_21 : Value} {x_mod_22 : Value} {x_mod_23 : Value} {x_mod_24 : Value} {x_mod_25 : Value} {x_mod_26 : Value} {x_mod_27 : Value} {x_mod_28 : Value} {x_mod_29 : Value} {x_mod_30 : Value} {x_mod_31 : Value} {x_mod_32 : Value} {p_mod p_mpr p_mim p_mre p_mce p_mgm p_mfx p_mcf p_mlc p_mlg p_mme a_mod a_mpr a_mim a_mre a_mce a_mgm a_mfx a_mcf a_mlc a_mlg a_mme : Nat} {mpr : Nat → UInt64} {mim : Nat → Bool} {mre : Nat → UInt64} {mce : Nat → Nat} {mgm : Nat → Nat} {mfx : Nat → Nat} {mcf : Nat → Bool} {mlc : Nat → Nat} {mlg : Nat → Nat} {mme : Nat → Nat} {t i sd : Nat} {pr0 : Nat → UInt64} {its : UInt64} (f0_mod : ws[p_mod]? = some (a_mod, .inr (8, x_mod_0 :: x_mod_1 :: x_mod_2 :: .ref a_mme :: x_mod_4 :: x_mod_5 :: x_mod_6 :: x_mod_7 :: .ref a_mce :: .ref a_mgm :: .ref a_mfx :: .ref a_mcf :: .ref a_mlc :: .ref a_mlg :: x_mod_14 :: x_mod_15 :: x_mod_16 :: .ref a_mpr :: .ref a_mim :: .ref a_mre :: x_mod_20 :: x_mod_21 :: x_mod_22 :: x_mod_23 :: x_mod_24 :: x_mod_25 :: x_mod_26 :: x_mod_27 :: x_mod_28 :: x_mod_29 :: x_mod_30 :: x_mod_31 :: x_mod_32 :: []))) (f0_mpr : ws[p_mpr]? = some (a_mpr, eD y 2304 mpr)) (f0_mim : ws[p_mim]? = some (a_mim, eZ y 2304 mim)) (f0_mre : ws[p_mre]? = some (a_mre, eD y 576 mre)) (f0_mce : ws[p_mce]? = some (a_mce, eN y 1152 mce)) (f0_mgm : ws[p_mgm]? = some (a_mgm, eN y 1152 mgm)) (f0_mfx : ws[p_mfx]? = some (a_mfx, eN y 1152 mfx)) (f0_mcf : ws[p_mcf]? = some (a_mcf, eZ y 1152 mcf)) (f0_mlc : ws[p_mlc]? = some (a_mlc, eN y 1152 mlc)) (f0_mlg : ws[p_mlg]? = some (a_mlg, eN y 1152 mlg)) (f0_mme : ws[p_mme]? = some (a_mme, eN y 12 mme)) (b_mce : ∀ k, mce k ≤ 100000) (b_mgm : ∀ k, mgm k ≤ 10000) (b_mfx : ∀ k, mfx k ≤ 100000) (b_mlc : ∀ k, mlc k ≤ 100000) (b_mlg : ∀ k, mlg k ≤ 10000) (b_mme : ∀ k, mme k ≤ 2) (ht : t < 24) (hi : i < 12) (hsd : sd ≤ 1) (hgm : ∀ k, mgm k = 0 → mce k = 0 ∧ mfx k = 0) (hlg : ∀ k, mlg k = 0 → mlc k = 0) (hcg : ∀ k, mce k = 0 → mgm k = 0) (hpr : prEq t (fun k => mpr (1152 * sd + k)) pr0) (hits : its = sRelI mcf (rCw sd mfx mce) mgm mlc mlg pr0 (mme i) t i) (hpos : ∀ j, j < 4 → P0 ((sRate (rCw sd mfx mce) mgm) (48 * t + 4 * i + j)) ∧ P0 ((sBase mlc mlg pr0) (48 * t + 4 * i + j))) (hnn : nnItem mcf (rCw sd mfx mce) mgm mlc mlg pr0 (mme i) t i) (hdis : p_mpr ≠ p_mre ∧ p_mim ≠ p_mce ∧ p_mim ≠ p_mgm ∧ p_mim ≠ p_mfx ∧ p_mim ≠ p_mcf ∧ p_mim ≠ p_mlc ∧ p_mim ≠ p_mlg ∧ p_mim ≠ p_mme) : gMv l yX7_prices wsX7_prices ({ frames := 3, cells := 0, slots := 0, locals := 83 }) D y [.ref a_mod, .int (nI (t)), .int (nI (i)), .int (nI (sd))] ws (fun (_ : Unit) => True) (fun (_ : Unit) => (((ws.set p_mim (a_mim, eZ y 2304 (bF (rK mcf (rCw sd mfx mce) mgm mlc mlg pr0) (1152 * sd) (48 * t + 4 * i) mim 4))).set p_mre (a_mre, eD y 576 (vf_upd mre (12 * (24 * sd + t) + i) (its)))).set p_mpr (a_mpr, eD y 2304 (dF (rPrice (rK mcf (rCw sd mfx mce) mgm mlc mlg pr0) (sRate (rCw sd mfx mce) mgm) (sBase mlc mlg pr0) its) (1152 * sd) (48 * t + 4 * i) mpr 4)))) := by
  refine g_met_v (cc := cX7_prices) (maxL := 13) (by decide) rfl (Nat.le_of_ble_eq_true rfl) ?_
  intro p e s m below meth c A hx hb hml hr hts hown hnm hlocks hE hP hD hS hA ls hl
  have hown : s.vm.findClass RX7 = some m.cls := hown
  have hl : lv_has ls 13 [(0, .ref a_mod), (1, .int (nI (t))), (2, .int (nI (i))), (3, .int (nI (sd)))] := hl
  have in_RX7 := in_c_X7_prices_RX7
  refine lv_sipush (v := nI 1152) hx hb dX7_prices_0 (by decide) ?_
  refine lv_iload_n hx hb dX7_prices_3 rfl (lv_at hl 3 rfl) ?_
  refine g_imul hx hb dX7_prices_4 (pk_mul _ _) ?_
  refine lv_istore (lv' := [(4, .int (nI (1152 * sd))), (0, .ref a_mod), (1, .int (nI (t))), (2, .int (nI (i))), (3, .int (nI (sd)))]) hx hb dX7_prices_5 hl (by decide) rfl (fun ls hl => ?_)
  refine lv_iconst (v := nI 0) hx hb dX7_prices_7 (by decide) ?_
  refine lv_istore (lv' := [(5, .int (nI (0))), (4, .int (nI (1152 * sd))), (0, .ref a_mod), (1, .int (nI (t))), (2, .int (nI (i))), (3, .int (nI (sd)))]) hx hb dX7_prices_8 hl (by decide) rfl (fun ls hl => ?_)
  have hP := g_trP (g_same f0_mim) hP
  have hD := g_trD (g_same f0_mim) hD
  have hP : gvP D vwCl (ws.set p_mim (a_mim, eZ y 2304 (bF (rK mcf (rCw sd mfx mce) mgm mlc mlg pr0) (1152 * sd) (48 * t + 4 * i) mim (0)))) _ := g_trP (rfl) hP
  have hD : gvD A (ws.set p_mim (a_mim, eZ y 2304 (bF (rK mcf (rCw sd mfx mce) mgm mlc mlg pr0) (1152 * sd) (48 * t + 4 * i) mim (0)))) := g_trD (rfl) hD
  refine g_for (fun j => (ws.set p_mim (a_mim, eZ y 2304 (bF (rK mcf (rCw sd mfx mce) mgm mlc mlg pr0) (1152 * sd) (48 * t + 4 * i) mim (j))))) (fun j => [(0, .ref a_mod), (1, .int (nI (t))), (2, .int (nI (i))), (3, .int (nI (sd))), (4, .int (nI (1152 * sd))), (5, .int (nI (j)))]) (4) (0) (by omega) ?_ ?_ hP hD hS (lv_sub hl [2, 3, 4, 5, 1, 0] rfl)
  · intro H locs ls hP hD hS hl
    have hP : gvP D vwCl (ws.set p_mim (a_mim, eZ y 2304 (bF (rK mcf (rCw sd mfx mce) mgm mlc mlg pr0) (1152 * sd) (48 * t + 4 * i) mim (4)))) H := hP
    have hD : gvD A (ws.set p_mim (a_mim, eZ y 2304 (bF (rK mcf (rCw sd mfx mce) mgm mlc mlg pr0) (1152 * sd) (48 * t + 4 * i) mim (4)))) := hD
    have hl : lv_has ls 13 [(0, .ref a_mod), (1, .int (nI (t))), (2, .int (nI (i))), (3, .int (nI (sd))), (4, .int (nI (1152 * sd))), (5, .int (nI (4)))] := hl
    refine lv_iload hx hb dX7_prices_10 (lv_at hl 5 rfl) ?_
    refine lv_iconst (v := nI 4) hx hb dX7_prices_12 (by decide) ?_
    refine g_icmp_ge (tgt := 46) hx hb (by omega) (by omega) dX7_prices_13 (by decide) (fun c_13 => ?_) (fun c_13 => absurd c_13 (by omega))
    refine lv_iload_n hx hb dX7_prices_46 rfl (lv_at hl 1 rfl) ?_
    refine g_if_ne (tgt := 54) hx hb (by omega) dX7_prices_47 (by decide) (fun c_47 => ?_) (fun c_47 => ?_)
    · refine lv_aload_n hx hb dX7_prices_54 rfl (lv_at hl 0 rfl) ?_
      refine lv_iload_n hx hb dX7_prices_55 rfl (lv_at hl 1 rfl) ?_
      refine lv_iload_n hx hb dX7_prices_56 rfl (lv_at hl 2 rfl) ?_
      refine lv_iload_n hx hb dX7_prices_57 rfl (lv_at hl 3 rfl) ?_
      refine lv_iconst (v := nI 0) hx hb dX7_prices_58 (by decide) ?_
      have f_mod := g_ne (x := (a_mim, eZ y 2304 (bF (rK mcf (rCw sd mfx mce) mgm mlc mlg pr0) (1152 * sd) (48 * t + 4 * i) mim (4)))) (g_kne f0_mim f0_mod (Nat.ne_of_beq_eq_false rfl)) (f0_mod)
      have f_mce := g_ne (x := (a_mim, eZ y 2304 (bF (rK mcf (rCw sd mfx mce) mgm mlc mlg pr0) (1152 * sd) (48 * t + 4 * i) mim (4)))) hdis.2.1 (f0_mce)
      have f_mgm := g_ne (x := (a_mim, eZ y 2304 (bF (rK mcf (rCw sd mfx mce) mgm mlc mlg pr0) (1152 * sd) (48 * t + 4 * i) mim (4)))) hdis.2.2.1 (f0_mgm)
      have f_mfx := g_ne (x := (a_mim, eZ y 2304 (bF (rK mcf (rCw sd mfx mce) mgm mlc mlg pr0) (1152 * sd) (48 * t + 4 * i) mim (4)))) hdis.2.2.2.1 (f0_mfx)
      have f_mlc := g_ne (x := (a_mim, eZ y 2304 (bF (rK mcf (rCw sd mfx mce) mgm mlc mlg pr0) (1152 * sd) (48 * t + 4 * i) mim (4)))) hdis.2.2.2.2.2.1 (f0_mlc)
      have f_mlg := g_ne (x := (a_mim, eZ y 2304 (bF (rK mcf (rCw sd mfx mce) mgm mlc mlg pr0) (1152 * sd) (48 * t + 4 * i) mim (4)))) hdis.2.2.2.2.2.2.1 (f0_mlg)
      have f_mpr := g_ne (x := (a_mim, eZ y 2304 (bF (rK mcf (rCw sd mfx mce) mgm mlc mlg pr0) (1152 * sd) (48 * t + 4 * i) mim (4)))) (g_kne f0_mim f0_mpr (Nat.ne_of_beq_eq_false rfl)) (f0_mpr)
      have f_mim := g_eq (x := (a_mim, eZ y 2304 (bF (rK mcf (rCw sd mfx mce) mgm mlc mlg pr0) (1152 * sd) (48 * t + 4 * i) mim (4)))) (f0_mim)
      have f_mme := g_ne (x := (a_mim, eZ y 2304 (bF (rK mcf (rCw sd mfx mce) mgm mlc mlg pr0) (1152 * sd) (48 * t + 4 * i) mim (4)))) hdis.2.2.2.2.2.2.2 (f0_mme)
      refine gc_V_d (As := [.int (nI (t)), .int (nI (i)), .int (nI (sd)), .int (gb (false))]) (rest := []) (c_X7_meanOf_f l f_mod f_mce f_mgm f_mfx f_mlc f_mlg f_mpr f_mim f_mme b_mce b_mgm b_mfx b_mlc b_mlg b_mme ht hi hsd hgm hlg (by have k9 := hnn.2.1; rw [show t * 48 + i * 4 + 0 = 48 * t + 4 * i by omega] at k9; exact nnMean_eq (fun j hj => (bF_in (by omega) (by omega)).symm) (fun j hj => (mRate_s hgm hcg _).symm) (fun j hj => (sBase_eq hpr (by omega)).symm) k9)) ⟨hx, hb, hml, hown, hts⟩ (cwV 4 hts gX7_prices_X7_meanOf rfl rfl rfl (by decide +kernel) ⟨Nat.le_of_ble_eq_true rfl, Nat.le_of_ble_eq_true rfl⟩) hE hP hD hS hA _ f_mod rfl rfl rfl rfl hl.1 (Nat.le_of_ble_eq_true rfl) dX7_prices_59 ⟨Nat.le_of_ble_eq_true rfl, Nat.le_of_ble_eq_true rfl⟩ (fun r_59 u_59 H locs hP hD hS q_59 => ?_)
      subst q_59
      have e9 : sMean (mme i) (fun k => (bF (rK mcf (rCw sd mfx mce) mgm mlc mlg pr0) (1152 * sd) (48 * t + 4 * i) mim 4) (1152 * sd + k)) (mRate (rCw sd mfx mce) mgm) (sBase mlc mlg (fun k => mpr (1152 * sd + k))) (48 * t + 4 * i) = its := by
            rw [hits]; unfold sRelI
            rw [show t * 48 + i * 4 + 0 = 48 * t + 4 * i by omega]
            exact sMean_eq (fun j hj => bF_in (by omega) (by omega)) (fun j hj => mRate_s hgm hcg _) (fun j hj => sBase_eq hpr (by omega))
      refine g_dv (v' := its) e9 ?_
      refine lv_dstore (lv' := [(5, .double its), (0, .ref a_mod), (1, .int (nI (t))), (2, .int (nI (i))), (3, .int (nI (sd))), (4, .int (nI (1152 * sd)))]) hx hb dX7_prices_62 hl (by decide) rfl (fun ls hl => ?_)
      refine lv_aload_n hx hb dX7_prices_64 rfl (lv_at hl 1 rfl) ?_
      refine va_get (D := D) (ci := 8) (v := .ref a_mre) (C := RX7) (T := TX7) (N := 33) hx hb hts in_RX7 hown hE.1 (gv1 hP f_mod) 0 rfl rfl 19 (by decide) (hts (.fieldLink RX7 54 "BasketryOfficeModel" "relative" "[D") (by decide +kernel)) (fun _ h9 => h9) rfl dX7_prices_65 ?_
      refine lv_bipush (v := nI 12) hx hb dX7_prices_68 (by decide) ?_
      refine lv_bipush (v := nI 24) hx hb dX7_prices_70 (by decide) ?_
      refine lv_iload_n hx hb dX7_prices_72 rfl (lv_at hl 4 rfl) ?_
      refine g_imul hx hb dX7_prices_73 (pk_mul _ _) ?_
      refine lv_iload_n hx hb dX7_prices_74 rfl (lv_at hl 2 rfl) ?_
      refine g_iadd hx hb dX7_prices_75 (nI_add _ _) ?_
      refine g_imul hx hb dX7_prices_76 (pk_mul _ _) ?_
      refine lv_iload_n hx hb dX7_prices_77 rfl (lv_at hl 3 rfl) ?_
      refine g_iadd hx hb dX7_prices_78 (nI_add _ _) ?_
      refine lv_dload hx hb dX7_prices_79 (lv_at hl 0 rfl) ?_
      have f_mre := g_ne (x := (a_mim, eZ y 2304 (bF (rK mcf (rCw sd mfx mce) mgm mlc mlg pr0) (1152 * sd) (48 * t + 4 * i) mim (4)))) (g_kne f0_mim f0_mre (Nat.ne_of_beq_eq_false rfl)) (f0_mre)
      refine g_dast hx hb hE hP hD hS _ f_mre (by omega) (by decide) dX7_prices_81 (fun H locs hP hD hS => ?_)
      refine lv_iconst (v := nI 0) hx hb dX7_prices_82 (by decide) ?_
      refine lv_istore (lv' := [(7, .int (nI (0))), (5, .double its), (0, .ref a_mod), (1, .int (nI (t))), (2, .int (nI (i))), (3, .int (nI (sd))), (4, .int (nI (1152 * sd)))]) hx hb dX7_prices_83 hl (by decide) rfl (fun ls hl => ?_)
      have f_mpr := g_ne (x := (a_mre, eD y 576 (vf_upd mre ((12 * ((24 * sd) + t)) + i) (its)))) (Ne.symm hdis.1) (g_ne (x := (a_mim, eZ y 2304 (bF (rK mcf (rCw sd mfx mce) mgm mlc mlg pr0) (1152 * sd) (48 * t + 4 * i) mim (4)))) (g_kne f0_mim f0_mpr (Nat.ne_of_beq_eq_false rfl)) (f0_mpr))
      have hP := g_trP (g_same f_mpr) hP
      have hD := g_trD (g_same f_mpr) hD
      have hP : gvP D vwCl (((ws.set p_mim (a_mim, eZ y 2304 (bF (rK mcf (rCw sd mfx mce) mgm mlc mlg pr0) (1152 * sd) (48 * t + 4 * i) mim (4)))).set p_mre (a_mre, eD y 576 (vf_upd mre ((12 * ((24 * sd) + t)) + i) (its)))).set p_mpr (a_mpr, eD y 2304 (dF (rPrice (rK mcf (rCw sd mfx mce) mgm mlc mlg pr0) (sRate (rCw sd mfx mce) mgm) (sBase mlc mlg pr0) its) (1152 * sd) (48 * t + 4 * i) mpr (0)))) _ := g_trP (rfl) hP
      have hD : gvD A (((ws.set p_mim (a_mim, eZ y 2304 (bF (rK mcf (rCw sd mfx mce) mgm mlc mlg pr0) (1152 * sd) (48 * t + 4 * i) mim (4)))).set p_mre (a_mre, eD y 576 (vf_upd mre ((12 * ((24 * sd) + t)) + i) (its)))).set p_mpr (a_mpr, eD y 2304 (dF (rPrice (rK mcf (rCw sd mfx mce) mgm mlc mlg pr0) (sRate (rCw sd mfx mce) mgm) (sBase mlc mlg pr0) its) (1152 * sd) (48 * t + 4 * i) mpr (0)))) := g_trD (rfl) hD
      refine g_for (fun j => (((ws.set p_mim (a_mim, eZ y 2304 (bF (rK mcf (rCw sd mfx mce) mgm mlc mlg pr0) (1152 * sd) (48 * t + 4 * i) mim (4)))).set p_mre (a_mre, eD y 576 (vf_upd mre ((12 * ((24 * sd) + t)) + i) (its)))).set p_mpr (a_mpr, eD y 2304 (dF (rPrice (rK mcf (rCw sd mfx mce) mgm mlc mlg pr0) (sRate (rCw sd mfx mce) mgm) (sBase mlc mlg pr0) its) (1152 * sd) (48 * t + 4 * i) mpr (j))))) (fun j => [(0, .ref a_mod), (1, .int (nI (t))), (2, .int (nI (i))), (3, .int (nI (sd))), (4, .int (nI (1152 * sd))), (5, .double its), (7, .int (nI (j)))]) (4) (0) (by omega) ?_ ?_ hP hD hS (lv_sub hl [2, 3, 4, 5, 6, 1, 0] rfl)
      · intro H locs ls hP hD hS hl
        have hP : gvP D vwCl (((ws.set p_mim (a_mim, eZ y 2304 (bF (rK mcf (rCw sd mfx mce) mgm mlc mlg pr0) (1152 * sd) (48 * t + 4 * i) mim (4)))).set p_mre (a_mre, eD y 576 (vf_upd mre ((12 * ((24 * sd) + t)) + i) (its)))).set p_mpr (a_mpr, eD y 2304 (dF (rPrice (rK mcf (rCw sd mfx mce) mgm mlc mlg pr0) (sRate (rCw sd mfx mce) mgm) (sBase mlc mlg pr0) its) (1152 * sd) (48 * t + 4 * i) mpr (4)))) H := hP
        have hD : gvD A (((ws.set p_mim (a_mim, eZ y 2304 (bF (rK mcf (rCw sd mfx mce) mgm mlc mlg pr0) (1152 * sd) (48 * t + 4 * i) mim (4)))).set p_mre (a_mre, eD y 576 (vf_upd mre ((12 * ((24 * sd) + t)) + i) (its)))).set p_mpr (a_mpr, eD y 2304 (dF (rPrice (rK mcf (rCw sd mfx mce) mgm mlc mlg pr0) (sRate (rCw sd mfx mce) mgm) (sBase mlc mlg pr0) its) (1152 * sd) (48 * t + 4 * i) mpr (4)))) := hD
        have hl : lv_has ls 13 [(0, .ref a_mod), (1, .int (nI (t))), (2, .int (nI (i))), (3, .int (nI (sd))), (4, .int (nI (1152 * sd))), (5, .double its), (7, .int (nI (4)))] := hl
        refine lv_iload hx hb dX7_prices_85 (lv_at hl 6 rfl) ?_
        refine lv_iconst (v := nI 4) hx hb dX7_prices_87 (by decide) ?_
        refine g_icmp_ge (tgt := 214) hx hb (by omega) (by omega) dX7_prices_88 (by decide) (fun c_88 => ?_) (fun c_88 => absurd c_88 (by omega))
        refine g_vret hx hb hr hlocks () dX7_prices_214 hS hP hD ?_
        exact trivial
      · intro j hj_j ih_j H locs ls hP hD hS hl
        have hP : gvP D vwCl (((ws.set p_mim (a_mim, eZ y 2304 (bF (rK mcf (rCw sd mfx mce) mgm mlc mlg pr0) (1152 * sd) (48 * t + 4 * i) mim (4)))).set p_mre (a_mre, eD y 576 (vf_upd mre ((12 * ((24 * sd) + t)) + i) (its)))).set p_mpr (a_mpr, eD y 2304 (dF (rPrice (rK mcf (rCw sd mfx mce) mgm mlc mlg pr0) (sRate (rCw sd mfx mce) mgm) (sBase mlc mlg pr0) its) (1152 * sd) (48 * t + 4 * i) mpr (j)))) H := hP
        have hD : gvD A (((ws.set p_mim (a_mim, eZ y 2304 (bF (rK mcf (rCw sd mfx mce) mgm mlc mlg pr0) (1152 * sd) (48 * t + 4 * i) mim (4)))).set p_mre (a_mre, eD y 576 (vf_upd mre ((12 * ((24 * sd) + t)) + i) (its)))).set p_mpr (a_mpr, eD y 2304 (dF (rPrice (rK mcf (rCw sd mfx mce) mgm mlc mlg pr0) (sRate (rCw sd mfx mce) mgm) (sBase mlc mlg pr0) its) (1152 * sd) (48 * t + 4 * i) mpr (j)))) := hD
        have hl : lv_has ls 13 [(0, .ref a_mod), (1, .int (nI (t))), (2, .int (nI (i))), (3, .int (nI (sd))), (4, .int (nI (1152 * sd))), (5, .double its), (7, .int (nI (j)))] := hl
        have eK : 48 * t + 4 * i + j = t * 48 + i * 4 + 0 + j := by omega
        have hpj : prEq t (fun k => (dF (rPrice (rK mcf (rCw sd mfx mce) mgm mlc mlg pr0) (sRate (rCw sd mfx mce) mgm) (sBase mlc mlg pr0) its) (1152 * sd) (48 * t + 4 * i) mpr j) (1152 * sd + k)) pr0 := dF_prEq hpr (by omega)
        have eb : mBase mlc mlg (dF (rPrice (rK mcf (rCw sd mfx mce) mgm mlc mlg pr0) (sRate (rCw sd mfx mce) mgm) (sBase mlc mlg pr0) its) (1152 * sd) (48 * t + 4 * i) mpr j) t i j sd = (sBase mlc mlg pr0) (48 * t + 4 * i + j) := (mBase_s hi hj_j hlg).trans (sBase_eq hpj (by omega))
        have er : mRate (rCw sd mfx mce) mgm (48 * t + 4 * i + j) = (sRate (rCw sd mfx mce) mgm) (48 * t + 4 * i + j) := mRate_s hgm hcg _
        have eM : (bF (rK mcf (rCw sd mfx mce) mgm mlc mlg pr0) (1152 * sd) (48 * t + 4 * i) mim 4) (1152 * sd + (48 * t + 4 * i + j)) = (rK mcf (rCw sd mfx mce) mgm mlc mlg pr0) (48 * t + 4 * i + j) := bF_in (by omega) (by omega)
        have pr9 : P0 ((sRate (rCw sd mfx mce) mgm) (48 * t + 4 * i + j)) := (hpos j hj_j).1
        have pb9 : P0 ((sBase mlc mlg pr0) (48 * t + 4 * i + j)) := (hpos j hj_j).2
        have nn3 := hnn.2.2 j hj_j
        rw [← eK, ← hits] at nn3
        refine lv_iload hx hb dX7_prices_85 (lv_at hl 6 rfl) ?_
        refine lv_iconst (v := nI 4) hx hb dX7_prices_87 (by decide) ?_
        refine g_icmp_ge (tgt := 214) hx hb (by omega) (by omega) dX7_prices_88 (by decide) (fun c_88 => absurd c_88 (by omega)) (fun c_88 => ?_)
        refine lv_aload_n hx hb dX7_prices_91 rfl (lv_at hl 0 rfl) ?_
        refine lv_iload_n hx hb dX7_prices_92 rfl (lv_at hl 1 rfl) ?_
        refine lv_iload_n hx hb dX7_prices_93 rfl (lv_at hl 2 rfl) ?_
        refine lv_iload hx hb dX7_prices_94 (lv_at hl 6 rfl) ?_
        refine lv_iload_n hx hb dX7_prices_96 rfl (lv_at hl 3 rfl) ?_
        have f_mod := g_ne (x := (a_mpr, eD y 2304 (dF (rPrice (rK mcf (rCw sd mfx mce) mgm mlc mlg pr0) (sRate (rCw sd mfx mce) mgm) (sBase mlc mlg pr0) its) (1152 * sd) (48 * t + 4 * i) mpr (j)))) (g_kne f0_mpr f0_mod (Nat.ne_of_beq_eq_false rfl)) (g_ne (x := (a_mre, eD y 576 (vf_upd mre ((12 * ((24 * sd) + t)) + i) (its)))) (g_kne f0_mre f0_mod (Nat.ne_of_beq_eq_false rfl)) (g_ne (x := (a_mim, eZ y 2304 (bF (rK mcf (rCw sd mfx mce) mgm mlc mlg pr0) (1152 * sd) (48 * t + 4 * i) mim (4)))) (g_kne f0_mim f0_mod (Nat.ne_of_beq_eq_false rfl)) (f0_mod)))
        have f_mlc := g_ne (x := (a_mpr, eD y 2304 (dF (rPrice (rK mcf (rCw sd mfx mce) mgm mlc mlg pr0) (sRate (rCw sd mfx mce) mgm) (sBase mlc mlg pr0) its) (1152 * sd) (48 * t + 4 * i) mpr (j)))) (g_kne f0_mpr f0_mlc (Nat.ne_of_beq_eq_false rfl)) (g_ne (x := (a_mre, eD y 576 (vf_upd mre ((12 * ((24 * sd) + t)) + i) (its)))) (g_kne f0_mre f0_mlc (Nat.ne_of_beq_eq_false rfl)) (g_ne (x := (a_mim, eZ y 2304 (bF (rK mcf (rCw sd mfx mce) mgm mlc mlg pr0) (1152 * sd) (48 * t + 4 * i) mim (4)))) hdis.2.2.2.2.2.1 (f0_mlc)))
        have f_mlg := g_ne (x := (a_mpr, eD y 2304 (dF (rPrice (rK mcf (rCw sd mfx mce) mgm mlc mlg pr0) (sRate (rCw sd mfx mce) mgm) (sBase mlc mlg pr0) its) (1152 * sd) (48 * t + 4 * i) mpr (j)))) (g_kne f0_mpr f0_mlg (Nat.ne_of_beq_eq_false rfl)) (g_ne (x := (a_mre, eD y 576 (vf_upd mre ((12 * ((24 * sd) + t)) + i) (its)))) (g_kne f0_mre f0_mlg (Nat.ne_of_beq_eq_false rfl)) (g_ne (x := (a_mim, eZ y 2304 (bF (rK mcf (rCw sd mfx mce) mgm mlc mlg pr0) (1152 * sd) (48 * t + 4 * i) mim (4)))) hdis.2.2.2.2.2.2.1 (f0_mlg)))
        have f_mpr := g_eq (x := (a_mpr, eD y 2304 (dF (rPrice (rK mcf (rCw sd mfx mce) mgm mlc mlg pr0) (sRate (rCw sd mfx mce) mgm) (sBase mlc mlg pr0) its) (1152 * sd) (48 * t + 4 * i) mpr (j)))) (g_ne (x := (a_mre, eD y 576 (vf_upd mre ((12 * ((24 * sd) + t)) + i) (its)))) (Ne.symm hdis.1) (g_ne (x := (a_mim, eZ y 2304 (bF (rK mcf (rCw sd mfx mce) mgm mlc mlg pr0) (1152 * sd) (48 * t + 4 * i) mim (4)))) (g_kne f0_mim f0_mpr (Nat.ne_of_beq_eq_false rfl)) (f0_mpr)))
        refine gc_V_d (As := [.int (nI (t)), .int (nI (i)), .int (nI (j)), .int (nI (sd))]) (rest := []) (c_X7_base l f_mod f_mlc f_mlg f_mpr b_mlc b_mlg ht hi hj_j hsd hlg) ⟨hx, hb, hml, hown, hts⟩ (cwV 4 hts gX7_prices_X7_base rfl rfl rfl (by decide +kernel) ⟨Nat.le_of_ble_eq_true rfl, Nat.le_of_ble_eq_true rfl⟩) hE hP hD hS hA _ f_mod rfl rfl rfl rfl hl.1 (Nat.le_of_ble_eq_true rfl) dX7_prices_97 ⟨Nat.le_of_ble_eq_true rfl, Nat.le_of_ble_eq_true rfl⟩ (fun r_97 u_97 H locs hP hD hS q_97 => ?_)
        have q9 := q_97.trans eb
        subst q9
        refine lv_dstore (lv' := [(8, .double ((sBase mlc mlg pr0) (48 * t + 4 * i + j))), (0, .ref a_mod), (1, .int (nI (t))), (2, .int (nI (i))), (3, .int (nI (sd))), (4, .int (nI (1152 * sd))), (5, .double its), (7, .int (nI (j)))]) hx hb dX7_prices_100 hl (by decide) rfl (fun ls hl => ?_)
        refine lv_aload_n hx hb dX7_prices_102 rfl (lv_at hl 1 rfl) ?_
        refine lv_iload_n hx hb dX7_prices_103 rfl (lv_at hl 2 rfl) ?_
        refine lv_iload_n hx hb dX7_prices_104 rfl (lv_at hl 3 rfl) ?_
        refine lv_iload hx hb dX7_prices_105 (lv_at hl 7 rfl) ?_
        refine gc_S_i (As := [.int (nI (t)), .int (nI (i)), .int (nI (j))]) (rest := [.ref a_mod]) (c_X7_cell l) ⟨hx, hb, hml, hown, hts⟩ (va_cwS 3 hts gX7_prices_X7_cell rfl rfl rfl (by decide +kernel) ⟨Nat.le_of_ble_eq_true rfl, Nat.le_of_ble_eq_true rfl⟩) hE hP hD hS hA rfl rfl hl.1 (Nat.le_of_ble_eq_true rfl) dX7_prices_107 ⟨Nat.le_of_ble_eq_true rfl, Nat.le_of_ble_eq_true rfl⟩ (fun r_107 u_107 H locs hP hD hS q_107 => ?_)
        subst q_107
        refine lv_iload_n hx hb dX7_prices_110 rfl (lv_at hl 4 rfl) ?_
        have f_mce := g_ne (x := (a_mpr, eD y 2304 (dF (rPrice (rK mcf (rCw sd mfx mce) mgm mlc mlg pr0) (sRate (rCw sd mfx mce) mgm) (sBase mlc mlg pr0) its) (1152 * sd) (48 * t + 4 * i) mpr (j)))) (g_kne f0_mpr f0_mce (Nat.ne_of_beq_eq_false rfl)) (g_ne (x := (a_mre, eD y 576 (vf_upd mre ((12 * ((24 * sd) + t)) + i) (its)))) (g_kne f0_mre f0_mce (Nat.ne_of_beq_eq_false rfl)) (g_ne (x := (a_mim, eZ y 2304 (bF (rK mcf (rCw sd mfx mce) mgm mlc mlg pr0) (1152 * sd) (48 * t + 4 * i) mim (4)))) hdis.2.1 (f0_mce)))
        have f_mgm := g_ne (x := (a_mpr, eD y 2304 (dF (rPrice (rK mcf (rCw sd mfx mce) mgm mlc mlg pr0) (sRate (rCw sd mfx mce) mgm) (sBase mlc mlg pr0) its) (1152 * sd) (48 * t + 4 * i) mpr (j)))) (g_kne f0_mpr f0_mgm (Nat.ne_of_beq_eq_false rfl)) (g_ne (x := (a_mre, eD y 576 (vf_upd mre ((12 * ((24 * sd) + t)) + i) (its)))) (g_kne f0_mre f0_mgm (Nat.ne_of_beq_eq_false rfl)) (g_ne (x := (a_mim, eZ y 2304 (bF (rK mcf (rCw sd mfx mce) mgm mlc mlg pr0) (1152 * sd) (48 * t + 4 * i) mim (4)))) hdis.2.2.1 (f0_mgm)))
        have f_mfx := g_ne (x := (a_mpr, eD y 2304 (dF (rPrice (rK mcf (rCw sd mfx mce) mgm mlc mlg pr0) (sRate (rCw sd mfx mce) mgm) (sBase mlc mlg pr0) its) (1152 * sd) (48 * t + 4 * i) mpr (j)))) (g_kne f0_mpr f0_mfx (Nat.ne_of_beq_eq_false rfl)) (g_ne (x := (a_mre, eD y 576 (vf_upd mre ((12 * ((24 * sd) + t)) + i) (its)))) (g_kne f0_mre f0_mfx (Nat.ne_of_beq_eq_false rfl)) (g_ne (x := (a_mim, eZ y 2304 (bF (rK mcf (rCw sd mfx mce) mgm mlc mlg pr0) (1152 * sd) (48 * t + 4 * i) mim (4)))) hdis.2.2.2.1 (f0_mfx)))
        refine gc_V_d (As := [.int (nI (48 * (t) + 4 * (i) + (j))), .int (nI (sd))]) (rest := []) (c_X7_rate l f_mod f_mce f_mgm f_mfx b_mce b_mgm b_mfx (by omega) hsd (hgm _)) ⟨hx, hb, hml, hown, hts⟩ (cwV 2 hts gX7_prices_X7_rate rfl rfl rfl (by decide +kernel) ⟨Nat.le_of_ble_eq_true rfl, Nat.le_of_ble_eq_true rfl⟩) hE hP hD hS hA _ f_mod rfl rfl rfl rfl hl.1 (Nat.le_of_ble_eq_true rfl) dX7_prices_111 ⟨Nat.le_of_ble_eq_true rfl, Nat.le_of_ble_eq_true rfl⟩ (fun r_111 u_111 H locs hP hD hS q_111 => ?_)
        have q9 := q_111.trans er
        subst q9
        refine lv_dstore (lv' := [(10, .double ((sRate (rCw sd mfx mce) mgm) (48 * t + 4 * i + j))), (8, .double ((sBase mlc mlg pr0) (48 * t + 4 * i + j))), (0, .ref a_mod), (1, .int (nI (t))), (2, .int (nI (i))), (3, .int (nI (sd))), (4, .int (nI (1152 * sd))), (5, .double its), (7, .int (nI (j)))]) hx hb dX7_prices_114 hl (by decide) rfl (fun ls hl => ?_)
        refine lv_aload_n hx hb dX7_prices_116 rfl (lv_at hl 2 rfl) ?_
        refine va_get (D := D) (ci := 8) (v := .ref a_mim) (C := RX7) (T := TX7) (N := 33) hx hb hts in_RX7 hown hE.1 (gv1 hP f_mod) 0 rfl rfl 18 (by decide) (hts (.fieldLink RX7 51 "BasketryOfficeModel" "isMatched" "[Z") (by decide +kernel)) (fun _ h9 => h9) rfl dX7_prices_117 ?_
        refine lv_iload hx hb dX7_prices_120 (lv_at hl 6 rfl) ?_
        refine lv_iload_n hx hb dX7_prices_122 rfl (lv_at hl 3 rfl) ?_
        refine lv_iload_n hx hb dX7_prices_123 rfl (lv_at hl 4 rfl) ?_
        refine lv_iload hx hb dX7_prices_124 (lv_at hl 8 rfl) ?_
        refine gc_S_i (As := [.int (nI (t)), .int (nI (i)), .int (nI (j))]) (rest := [.int (nI (1152 * sd)), .ref a_mim]) (c_X7_cell l) ⟨hx, hb, hml, hown, hts⟩ (va_cwS 3 hts gX7_prices_X7_cell rfl rfl rfl (by decide +kernel) ⟨Nat.le_of_ble_eq_true rfl, Nat.le_of_ble_eq_true rfl⟩) hE hP hD hS hA rfl rfl hl.1 (Nat.le_of_ble_eq_true rfl) dX7_prices_126 ⟨Nat.le_of_ble_eq_true rfl, Nat.le_of_ble_eq_true rfl⟩ (fun r_126 u_126 H locs hP hD hS q_126 => ?_)
        subst q_126
        refine g_iadd hx hb dX7_prices_129 (nI_add _ _) ?_
        have f_mim := g_ne (x := (a_mpr, eD y 2304 (dF (rPrice (rK mcf (rCw sd mfx mce) mgm mlc mlg pr0) (sRate (rCw sd mfx mce) mgm) (sBase mlc mlg pr0) its) (1152 * sd) (48 * t + 4 * i) mpr (j)))) (g_kne f0_mpr f0_mim (Nat.ne_of_beq_eq_false rfl)) (g_ne (x := (a_mre, eD y 576 (vf_upd mre ((12 * ((24 * sd) + t)) + i) (its)))) (g_kne f0_mre f0_mim (Nat.ne_of_beq_eq_false rfl)) (g_eq (x := (a_mim, eZ y 2304 (bF (rK mcf (rCw sd mfx mce) mgm mlc mlg pr0) (1152 * sd) (48 * t + 4 * i) mim (4)))) (f0_mim)))
        refine g_zald hx hb hE hP _ f_mim (by omega) (by decide) dX7_prices_130 ?_
        refine g_bif_ne (tgt := 148) hx hb dX7_prices_131 (by decide) (fun c_131 => ?_) (fun c_131 => ?_)
        · refine lv_iconst (v := nI 1) hx hb dX7_prices_148 (by decide) ?_
          refine lv_goto (tgt := 153) hx hb dX7_prices_149 (by decide) ?_
          refine lv_istore (lv' := [(12, .int (nI (1))), (10, .double ((sRate (rCw sd mfx mce) mgm) (48 * t + 4 * i + j))), (8, .double ((sBase mlc mlg pr0) (48 * t + 4 * i + j))), (0, .ref a_mod), (1, .int (nI (t))), (2, .int (nI (i))), (3, .int (nI (sd))), (4, .int (nI (1152 * sd))), (5, .double its), (7, .int (nI (j)))]) hx hb dX7_prices_153 hl (by decide) rfl (fun ls hl => ?_)
          refine lv_aload_n hx hb dX7_prices_155 rfl (lv_at hl 3 rfl) ?_
          refine va_get (D := D) (ci := 8) (v := .ref a_mpr) (C := RX7) (T := TX7) (N := 33) hx hb hts in_RX7 hown hE.1 (gv1 hP f_mod) 0 rfl rfl 17 (by decide) (hts (.fieldLink RX7 47 "BasketryOfficeModel" "price" "[D") (by decide +kernel)) (fun _ h9 => h9) rfl dX7_prices_156 ?_
          refine lv_iload hx hb dX7_prices_159 (lv_at hl 7 rfl) ?_
          refine lv_iload_n hx hb dX7_prices_161 rfl (lv_at hl 4 rfl) ?_
          refine lv_iload_n hx hb dX7_prices_162 rfl (lv_at hl 5 rfl) ?_
          refine lv_iload hx hb dX7_prices_163 (lv_at hl 9 rfl) ?_
          refine gc_S_i (As := [.int (nI (t)), .int (nI (i)), .int (nI (j))]) (rest := [.int (nI (1152 * sd)), .ref a_mpr]) (c_X7_cell l) ⟨hx, hb, hml, hown, hts⟩ (va_cwS 3 hts gX7_prices_X7_cell rfl rfl rfl (by decide +kernel) ⟨Nat.le_of_ble_eq_true rfl, Nat.le_of_ble_eq_true rfl⟩) hE hP hD hS hA rfl rfl hl.1 (Nat.le_of_ble_eq_true rfl) dX7_prices_165 ⟨Nat.le_of_ble_eq_true rfl, Nat.le_of_ble_eq_true rfl⟩ (fun r_165 u_165 H locs hP hD hS q_165 => ?_)
          subst q_165
          refine g_iadd hx hb dX7_prices_168 (nI_add _ _) ?_
          refine lv_iload hx hb dX7_prices_169 (lv_at hl 0 rfl) ?_
          refine g_if_eq (tgt := 179) hx hb (by omega) dX7_prices_171 (by decide) (fun c_171 => absurd c_171 (by omega)) (fun c_171 => ?_)
          refine lv_dload hx hb dX7_prices_174 (lv_at hl 1 rfl) ?_
          refine lv_goto (tgt := 207) hx hb dX7_prices_176 (by decide) ?_
          refine g_dv (v' := (rPrice (rK mcf (rCw sd mfx mce) mgm mlc mlg pr0) (sRate (rCw sd mfx mce) mgm) (sBase mlc mlg pr0) its) (48 * t + 4 * i + j)) (rP_1 (eM.symm.trans c_131)) ?_
          refine g_dast hx hb hE hP hD hS _ f_mpr (by omega) (by decide) dX7_prices_207 (fun H locs hP hD hS => ?_)
          have hP := g_trP g_ss hP
          have hD := g_trD g_ss hD
          refine lv_iinc (v := nI (j + 1)) (lv' := [(7, .int (nI (j + 1))), (12, .int (nI (1))), (10, .double ((sRate (rCw sd mfx mce) mgm) (48 * t + 4 * i + j))), (8, .double ((sBase mlc mlg pr0) (48 * t + 4 * i + j))), (0, .ref a_mod), (1, .int (nI (t))), (2, .int (nI (i))), (3, .int (nI (sd))), (4, .int (nI (1152 * sd))), (5, .double its)]) hx hb dX7_prices_208 hl (k := 9) rfl (nI_add _ 1) (by decide) rfl (fun ls hl => ?_)
          refine lv_goto (tgt := 85) hx hb dX7_prices_211 (by decide) ?_
          have hP : gvP D vwCl (((ws.set p_mim (a_mim, eZ y 2304 (bF (rK mcf (rCw sd mfx mce) mgm mlc mlg pr0) (1152 * sd) (48 * t + 4 * i) mim (4)))).set p_mre (a_mre, eD y 576 (vf_upd mre ((12 * ((24 * sd) + t)) + i) (its)))).set p_mpr (a_mpr, eD y 2304 (dF (rPrice (rK mcf (rCw sd mfx mce) mgm mlc mlg pr0) (sRate (rCw sd mfx mce) mgm) (sBase mlc mlg pr0) its) (1152 * sd) (48 * t + 4 * i) mpr (j + 1)))) _ := g_trP (rfl) hP
          have hD : gvD A (((ws.set p_mim (a_mim, eZ y 2304 (bF (rK mcf (rCw sd mfx mce) mgm mlc mlg pr0) (1152 * sd) (48 * t + 4 * i) mim (4)))).set p_mre (a_mre, eD y 576 (vf_upd mre ((12 * ((24 * sd) + t)) + i) (its)))).set p_mpr (a_mpr, eD y 2304 (dF (rPrice (rK mcf (rCw sd mfx mce) mgm mlc mlg pr0) (sRate (rCw sd mfx mce) mgm) (sBase mlc mlg pr0) its) (1152 * sd) (48 * t + 4 * i) mpr (j + 1)))) := g_trD (rfl) hD
          exact ih_j H locs ls hP hD hS (lv_sub hl [4, 5, 6, 7, 8, 9, 0] rfl)
        · refine lv_dload hx hb dX7_prices_134 (lv_at hl 0 rfl) ?_
          refine g_dconst0 hx hb dX7_prices_136 ?_
          refine g_dcmpl_le (tgt := 152) hx hb dX7_prices_137 dX7_prices_138 (by decide) (fun c_137 => ?_) (fun c_137 => ?_)
          · refine lv_iconst (v := nI 0) hx hb dX7_prices_152 (by decide) ?_
            refine lv_istore (lv' := [(12, .int (nI (0))), (10, .double ((sRate (rCw sd mfx mce) mgm) (48 * t + 4 * i + j))), (8, .double ((sBase mlc mlg pr0) (48 * t + 4 * i + j))), (0, .ref a_mod), (1, .int (nI (t))), (2, .int (nI (i))), (3, .int (nI (sd))), (4, .int (nI (1152 * sd))), (5, .double its), (7, .int (nI (j)))]) hx hb dX7_prices_153 hl (by decide) rfl (fun ls hl => ?_)
            refine lv_aload_n hx hb dX7_prices_155 rfl (lv_at hl 3 rfl) ?_
            refine va_get (D := D) (ci := 8) (v := .ref a_mpr) (C := RX7) (T := TX7) (N := 33) hx hb hts in_RX7 hown hE.1 (gv1 hP f_mod) 0 rfl rfl 17 (by decide) (hts (.fieldLink RX7 47 "BasketryOfficeModel" "price" "[D") (by decide +kernel)) (fun _ h9 => h9) rfl dX7_prices_156 ?_
            refine lv_iload hx hb dX7_prices_159 (lv_at hl 7 rfl) ?_
            refine lv_iload_n hx hb dX7_prices_161 rfl (lv_at hl 4 rfl) ?_
            refine lv_iload_n hx hb dX7_prices_162 rfl (lv_at hl 5 rfl) ?_
            refine lv_iload hx hb dX7_prices_163 (lv_at hl 9 rfl) ?_
            refine gc_S_i (As := [.int (nI (t)), .int (nI (i)), .int (nI (j))]) (rest := [.int (nI (1152 * sd)), .ref a_mpr]) (c_X7_cell l) ⟨hx, hb, hml, hown, hts⟩ (va_cwS 3 hts gX7_prices_X7_cell rfl rfl rfl (by decide +kernel) ⟨Nat.le_of_ble_eq_true rfl, Nat.le_of_ble_eq_true rfl⟩) hE hP hD hS hA rfl rfl hl.1 (Nat.le_of_ble_eq_true rfl) dX7_prices_165 ⟨Nat.le_of_ble_eq_true rfl, Nat.le_of_ble_eq_true rfl⟩ (fun r_165 u_165 H locs hP hD hS q_165 => ?_)
            subst q_165
            refine g_iadd hx hb dX7_prices_168 (nI_add _ _) ?_
            refine lv_iload hx hb dX7_prices_169 (lv_at hl 0 rfl) ?_
            refine g_if_eq (tgt := 179) hx hb (by omega) dX7_prices_171 (by decide) (fun c_171 => ?_) (fun c_171 => absurd c_171 (by omega))
            refine lv_dload hx hb dX7_prices_179 (lv_at hl 2 rfl) ?_
            refine g_dconst0 hx hb dX7_prices_181 ?_
            refine g_dcmpl_ne (tgt := 190) hx hb dX7_prices_182 dX7_prices_183 (by decide) (fun c_182 => ?_) (fun c_182 => ?_)
            · refine lv_dload hx hb dX7_prices_190 (lv_at hl 8 rfl) ?_
              refine g_dconst0 hx hb dX7_prices_192 ?_
              refine g_dcmpl_le (tgt := 205) hx hb dX7_prices_193 dX7_prices_194 (by decide) (fun c_193 => ?_) (fun c_193 => ?_)
              · refine lv_dload hx hb dX7_prices_205 (lv_at hl 2 rfl) ?_
                refine g_dv (v' := (rPrice (rK mcf (rCw sd mfx mce) mgm mlc mlg pr0) (sRate (rCw sd mfx mce) mgm) (sBase mlc mlg pr0) its) (48 * t + 4 * i + j)) (rP_4 (fun z => c_182 (pb9.de.mpr z)) (eM.symm.trans c_131) c_193) ?_
                refine g_dast hx hb hE hP hD hS _ f_mpr (by omega) (by decide) dX7_prices_207 (fun H locs hP hD hS => ?_)
                have hP := g_trP g_ss hP
                have hD := g_trD g_ss hD
                refine lv_iinc (v := nI (j + 1)) (lv' := [(7, .int (nI (j + 1))), (12, .int (nI (0))), (10, .double ((sRate (rCw sd mfx mce) mgm) (48 * t + 4 * i + j))), (8, .double ((sBase mlc mlg pr0) (48 * t + 4 * i + j))), (0, .ref a_mod), (1, .int (nI (t))), (2, .int (nI (i))), (3, .int (nI (sd))), (4, .int (nI (1152 * sd))), (5, .double its)]) hx hb dX7_prices_208 hl (k := 9) rfl (nI_add _ 1) (by decide) rfl (fun ls hl => ?_)
                refine lv_goto (tgt := 85) hx hb dX7_prices_211 (by decide) ?_
                have hP : gvP D vwCl (((ws.set p_mim (a_mim, eZ y 2304 (bF (rK mcf (rCw sd mfx mce) mgm mlc mlg pr0) (1152 * sd) (48 * t + 4 * i) mim (4)))).set p_mre (a_mre, eD y 576 (vf_upd mre ((12 * ((24 * sd) + t)) + i) (its)))).set p_mpr (a_mpr, eD y 2304 (dF (rPrice (rK mcf (rCw sd mfx mce) mgm mlc mlg pr0) (sRate (rCw sd mfx mce) mgm) (sBase mlc mlg pr0) its) (1152 * sd) (48 * t + 4 * i) mpr (j + 1)))) _ := g_trP (rfl) hP
                have hD : gvD A (((ws.set p_mim (a_mim, eZ y 2304 (bF (rK mcf (rCw sd mfx mce) mgm mlc mlg pr0) (1152 * sd) (48 * t + 4 * i) mim (4)))).set p_mre (a_mre, eD y 576 (vf_upd mre ((12 * ((24 * sd) + t)) + i) (its)))).set p_mpr (a_mpr, eD y 2304 (dF (rPrice (rK mcf (rCw sd mfx mce) mgm mlc mlg pr0) (sRate (rCw sd mfx mce) mgm) (sBase mlc mlg pr0) its) (1152 * sd) (48 * t + 4 * i) mpr (j + 1)))) := g_trD (rfl) hD
                exact ih_j H locs ls hP hD hS (lv_sub hl [4, 5, 6, 7, 8, 9, 0] rfl)
              · refine lv_dload hx hb dX7_prices_197 (lv_at hl 2 rfl) ?_
                refine lv_dload hx hb dX7_prices_199 (lv_at hl 8 rfl) ?_
                refine lv_dmul hx hb dX7_prices_201 nn3 ?_
                refine lv_goto (tgt := 207) hx hb dX7_prices_202 (by decide) ?_
                refine g_dv (v' := (rPrice (rK mcf (rCw sd mfx mce) mgm mlc mlg pr0) (sRate (rCw sd mfx mce) mgm) (sBase mlc mlg pr0) its) (48 * t + 4 * i + j)) (rP_3 (fun z => c_182 (pb9.de.mpr z)) (eM.symm.trans c_131) c_193) ?_
                refine g_dast hx hb hE hP hD hS _ f_mpr (by omega) (by decide) dX7_prices_207 (fun H locs hP hD hS => ?_)
                have hP := g_trP g_ss hP
                have hD := g_trD g_ss hD
                refine lv_iinc (v := nI (j + 1)) (lv' := [(7, .int (nI (j + 1))), (12, .int (nI (0))), (10, .double ((sRate (rCw sd mfx mce) mgm) (48 * t + 4 * i + j))), (8, .double ((sBase mlc mlg pr0) (48 * t + 4 * i + j))), (0, .ref a_mod), (1, .int (nI (t))), (2, .int (nI (i))), (3, .int (nI (sd))), (4, .int (nI (1152 * sd))), (5, .double its)]) hx hb dX7_prices_208 hl (k := 9) rfl (nI_add _ 1) (by decide) rfl (fun ls hl => ?_)
                refine lv_goto (tgt := 85) hx hb dX7_prices_211 (by decide) ?_
                have hP : gvP D vwCl (((ws.set p_mim (a_mim, eZ y 2304 (bF (rK mcf (rCw sd mfx mce) mgm mlc mlg pr0) (1152 * sd) (48 * t + 4 * i) mim (4)))).set p_mre (a_mre, eD y 576 (vf_upd mre ((12 * ((24 * sd) + t)) + i) (its)))).set p_mpr (a_mpr, eD y 2304 (dF (rPrice (rK mcf (rCw sd mfx mce) mgm mlc mlg pr0) (sRate (rCw sd mfx mce) mgm) (sBase mlc mlg pr0) its) (1152 * sd) (48 * t + 4 * i) mpr (j + 1)))) _ := g_trP (rfl) hP
                have hD : gvD A (((ws.set p_mim (a_mim, eZ y 2304 (bF (rK mcf (rCw sd mfx mce) mgm mlc mlg pr0) (1152 * sd) (48 * t + 4 * i) mim (4)))).set p_mre (a_mre, eD y 576 (vf_upd mre ((12 * ((24 * sd) + t)) + i) (its)))).set p_mpr (a_mpr, eD y 2304 (dF (rPrice (rK mcf (rCw sd mfx mce) mgm mlc mlg pr0) (sRate (rCw sd mfx mce) mgm) (sBase mlc mlg pr0) its) (1152 * sd) (48 * t + 4 * i) mpr (j + 1)))) := g_trD (rfl) hD
                exact ih_j H locs ls hP hD hS (lv_sub hl [4, 5, 6, 7, 8, 9, 0] rfl)
            · refine g_dconst0 hx hb dX7_prices_186 ?_
              refine lv_goto (tgt := 207) hx hb dX7_prices_187 (by decide) ?_
              refine g_dv (v' := (rPrice (rK mcf (rCw sd mfx mce) mgm mlc mlg pr0) (sRate (rCw sd mfx mce) mgm) (sBase mlc mlg pr0) its) (48 * t + 4 * i + j)) ((pr9.ngt c_137).symm.trans (rP_2 (Or.inr c_182))) ?_
              refine g_dast hx hb hE hP hD hS _ f_mpr (by omega) (by decide) dX7_prices_207 (fun H locs hP hD hS => ?_)
              have hP := g_trP g_ss hP
              have hD := g_trD g_ss hD
              refine lv_iinc (v := nI (j + 1)) (lv' := [(7, .int (nI (j + 1))), (12, .int (nI (0))), (10, .double ((sRate (rCw sd mfx mce) mgm) (48 * t + 4 * i + j))), (8, .double ((sBase mlc mlg pr0) (48 * t + 4 * i + j))), (0, .ref a_mod), (1, .int (nI (t))), (2, .int (nI (i))), (3, .int (nI (sd))), (4, .int (nI (1152 * sd))), (5, .double its)]) hx hb dX7_prices_208 hl (k := 9) rfl (nI_add _ 1) (by decide) rfl (fun ls hl => ?_)
              refine lv_goto (tgt := 85) hx hb dX7_prices_211 (by decide) ?_
              have hP : gvP D vwCl (((ws.set p_mim (a_mim, eZ y 2304 (bF (rK mcf (rCw sd mfx mce) mgm mlc mlg pr0) (1152 * sd) (48 * t + 4 * i) mim (4)))).set p_mre (a_mre, eD y 576 (vf_upd mre ((12 * ((24 * sd) + t)) + i) (its)))).set p_mpr (a_mpr, eD y 2304 (dF (rPrice (rK mcf (rCw sd mfx mce) mgm mlc mlg pr0) (sRate (rCw sd mfx mce) mgm) (sBase mlc mlg pr0) its) (1152 * sd) (48 * t + 4 * i) mpr (j + 1)))) _ := g_trP (rfl) hP
              have hD : gvD A (((ws.set p_mim (a_mim, eZ y 2304 (bF (rK mcf (rCw sd mfx mce) mgm mlc mlg pr0) (1152 * sd) (48 * t + 4 * i) mim (4)))).set p_mre (a_mre, eD y 576 (vf_upd mre ((12 * ((24 * sd) + t)) + i) (its)))).set p_mpr (a_mpr, eD y 2304 (dF (rPrice (rK mcf (rCw sd mfx mce) mgm mlc mlg pr0) (sRate (rCw sd mfx mce) mgm) (sBase mlc mlg pr0) its) (1152 * sd) (48 * t + 4 * i) mpr (j + 1)))) := g_trD (rfl) hD
              exact ih_j H locs ls hP hD hS (lv_sub hl [4, 5, 6, 7, 8, 9, 0] rfl)
          · refine lv_dload hx hb dX7_prices_141 (lv_at hl 1 rfl) ?_
            refine g_dconst0 hx hb dX7_prices_143 ?_
            refine g_dcmpl_ne (tgt := 152) hx hb dX7_prices_144 dX7_prices_145 (by decide) (fun c_144 => ?_) (fun c_144 => ?_)
            · refine lv_iconst (v := nI 0) hx hb dX7_prices_152 (by decide) ?_
              refine lv_istore (lv' := [(12, .int (nI (0))), (10, .double ((sRate (rCw sd mfx mce) mgm) (48 * t + 4 * i + j))), (8, .double ((sBase mlc mlg pr0) (48 * t + 4 * i + j))), (0, .ref a_mod), (1, .int (nI (t))), (2, .int (nI (i))), (3, .int (nI (sd))), (4, .int (nI (1152 * sd))), (5, .double its), (7, .int (nI (j)))]) hx hb dX7_prices_153 hl (by decide) rfl (fun ls hl => ?_)
              refine lv_aload_n hx hb dX7_prices_155 rfl (lv_at hl 3 rfl) ?_
              refine va_get (D := D) (ci := 8) (v := .ref a_mpr) (C := RX7) (T := TX7) (N := 33) hx hb hts in_RX7 hown hE.1 (gv1 hP f_mod) 0 rfl rfl 17 (by decide) (hts (.fieldLink RX7 47 "BasketryOfficeModel" "price" "[D") (by decide +kernel)) (fun _ h9 => h9) rfl dX7_prices_156 ?_
              refine lv_iload hx hb dX7_prices_159 (lv_at hl 7 rfl) ?_
              refine lv_iload_n hx hb dX7_prices_161 rfl (lv_at hl 4 rfl) ?_
              refine lv_iload_n hx hb dX7_prices_162 rfl (lv_at hl 5 rfl) ?_
              refine lv_iload hx hb dX7_prices_163 (lv_at hl 9 rfl) ?_
              refine gc_S_i (As := [.int (nI (t)), .int (nI (i)), .int (nI (j))]) (rest := [.int (nI (1152 * sd)), .ref a_mpr]) (c_X7_cell l) ⟨hx, hb, hml, hown, hts⟩ (va_cwS 3 hts gX7_prices_X7_cell rfl rfl rfl (by decide +kernel) ⟨Nat.le_of_ble_eq_true rfl, Nat.le_of_ble_eq_true rfl⟩) hE hP hD hS hA rfl rfl hl.1 (Nat.le_of_ble_eq_true rfl) dX7_prices_165 ⟨Nat.le_of_ble_eq_true rfl, Nat.le_of_ble_eq_true rfl⟩ (fun r_165 u_165 H locs hP hD hS q_165 => ?_)
              subst q_165
              refine g_iadd hx hb dX7_prices_168 (nI_add _ _) ?_
              refine lv_iload hx hb dX7_prices_169 (lv_at hl 0 rfl) ?_
              refine g_if_eq (tgt := 179) hx hb (by omega) dX7_prices_171 (by decide) (fun c_171 => ?_) (fun c_171 => absurd c_171 (by omega))
              refine lv_dload hx hb dX7_prices_179 (lv_at hl 2 rfl) ?_
              refine g_dconst0 hx hb dX7_prices_181 ?_
              refine g_dcmpl_ne (tgt := 190) hx hb dX7_prices_182 dX7_prices_183 (by decide) (fun c_182 => ?_) (fun c_182 => absurd c_182 c_144)
              refine lv_dload hx hb dX7_prices_190 (lv_at hl 8 rfl) ?_
              refine g_dconst0 hx hb dX7_prices_192 ?_
              refine g_dcmpl_le (tgt := 205) hx hb dX7_prices_193 dX7_prices_194 (by decide) (fun c_193 => ?_) (fun c_193 => ?_)
              · refine lv_dload hx hb dX7_prices_205 (lv_at hl 2 rfl) ?_
                refine g_dv (v' := (rPrice (rK mcf (rCw sd mfx mce) mgm mlc mlg pr0) (sRate (rCw sd mfx mce) mgm) (sBase mlc mlg pr0) its) (48 * t + 4 * i + j)) (rP_4 (fun z => c_144 (pb9.de.mpr z)) (eM.symm.trans c_131) c_193) ?_
                refine g_dast hx hb hE hP hD hS _ f_mpr (by omega) (by decide) dX7_prices_207 (fun H locs hP hD hS => ?_)
                have hP := g_trP g_ss hP
                have hD := g_trD g_ss hD
                refine lv_iinc (v := nI (j + 1)) (lv' := [(7, .int (nI (j + 1))), (12, .int (nI (0))), (10, .double ((sRate (rCw sd mfx mce) mgm) (48 * t + 4 * i + j))), (8, .double ((sBase mlc mlg pr0) (48 * t + 4 * i + j))), (0, .ref a_mod), (1, .int (nI (t))), (2, .int (nI (i))), (3, .int (nI (sd))), (4, .int (nI (1152 * sd))), (5, .double its)]) hx hb dX7_prices_208 hl (k := 9) rfl (nI_add _ 1) (by decide) rfl (fun ls hl => ?_)
                refine lv_goto (tgt := 85) hx hb dX7_prices_211 (by decide) ?_
                have hP : gvP D vwCl (((ws.set p_mim (a_mim, eZ y 2304 (bF (rK mcf (rCw sd mfx mce) mgm mlc mlg pr0) (1152 * sd) (48 * t + 4 * i) mim (4)))).set p_mre (a_mre, eD y 576 (vf_upd mre ((12 * ((24 * sd) + t)) + i) (its)))).set p_mpr (a_mpr, eD y 2304 (dF (rPrice (rK mcf (rCw sd mfx mce) mgm mlc mlg pr0) (sRate (rCw sd mfx mce) mgm) (sBase mlc mlg pr0) its) (1152 * sd) (48 * t + 4 * i) mpr (j + 1)))) _ := g_trP (rfl) hP
                have hD : gvD A (((ws.set p_mim (a_mim, eZ y 2304 (bF (rK mcf (rCw sd mfx mce) mgm mlc mlg pr0) (1152 * sd) (48 * t + 4 * i) mim (4)))).set p_mre (a_mre, eD y 576 (vf_upd mre ((12 * ((24 * sd) + t)) + i) (its)))).set p_mpr (a_mpr, eD y 2304 (dF (rPrice (rK mcf (rCw sd mfx mce) mgm mlc mlg pr0) (sRate (rCw sd mfx mce) mgm) (sBase mlc mlg pr0) its) (1152 * sd) (48 * t + 4 * i) mpr (j + 1)))) := g_trD (rfl) hD
                exact ih_j H locs ls hP hD hS (lv_sub hl [4, 5, 6, 7, 8, 9, 0] rfl)
              · refine lv_dload hx hb dX7_prices_197 (lv_at hl 2 rfl) ?_
                refine lv_dload hx hb dX7_prices_199 (lv_at hl 8 rfl) ?_
                refine lv_dmul hx hb dX7_prices_201 nn3 ?_
                refine lv_goto (tgt := 207) hx hb dX7_prices_202 (by decide) ?_
                refine g_dv (v' := (rPrice (rK mcf (rCw sd mfx mce) mgm mlc mlg pr0) (sRate (rCw sd mfx mce) mgm) (sBase mlc mlg pr0) its) (48 * t + 4 * i + j)) (rP_3 (fun z => c_144 (pb9.de.mpr z)) (eM.symm.trans c_131) c_193) ?_
                refine g_dast hx hb hE hP hD hS _ f_mpr (by omega) (by decide) dX7_prices_207 (fun H locs hP hD hS => ?_)
                have hP := g_trP g_ss hP
                have hD := g_trD g_ss hD
                refine lv_iinc (v := nI (j + 1)) (lv' := [(7, .int (nI (j + 1))), (12, .int (nI (0))), (10, .double ((sRate (rCw sd mfx mce) mgm) (48 * t + 4 * i + j))), (8, .double ((sBase mlc mlg pr0) (48 * t + 4 * i + j))), (0, .ref a_mod), (1, .int (nI (t))), (2, .int (nI (i))), (3, .int (nI (sd))), (4, .int (nI (1152 * sd))), (5, .double its)]) hx hb dX7_prices_208 hl (k := 9) rfl (nI_add _ 1) (by decide) rfl (fun ls hl => ?_)
                refine lv_goto (tgt := 85) hx hb dX7_prices_211 (by decide) ?_
                have hP : gvP D vwCl (((ws.set p_mim (a_mim, eZ y 2304 (bF (rK mcf (rCw sd mfx mce) mgm mlc mlg pr0) (1152 * sd) (48 * t + 4 * i) mim (4)))).set p_mre (a_mre, eD y 576 (vf_upd mre ((12 * ((24 * sd) + t)) + i) (its)))).set p_mpr (a_mpr, eD y 2304 (dF (rPrice (rK mcf (rCw sd mfx mce) mgm mlc mlg pr0) (sRate (rCw sd mfx mce) mgm) (sBase mlc mlg pr0) its) (1152 * sd) (48 * t + 4 * i) mpr (j + 1)))) _ := g_trP (rfl) hP
                have hD : gvD A (((ws.set p_mim (a_mim, eZ y 2304 (bF (rK mcf (rCw sd mfx mce) mgm mlc mlg pr0) (1152 * sd) (48 * t + 4 * i) mim (4)))).set p_mre (a_mre, eD y 576 (vf_upd mre ((12 * ((24 * sd) + t)) + i) (its)))).set p_mpr (a_mpr, eD y 2304 (dF (rPrice (rK mcf (rCw sd mfx mce) mgm mlc mlg pr0) (sRate (rCw sd mfx mce) mgm) (sBase mlc mlg pr0) its) (1152 * sd) (48 * t + 4 * i) mpr (j + 1)))) := g_trD (rfl) hD
                exact ih_j H locs ls hP hD hS (lv_sub hl [4, 5, 6, 7, 8, 9, 0] rfl)
            · refine lv_iconst (v := nI 1) hx hb dX7_prices_148 (by decide) ?_
              refine lv_goto (tgt := 153) hx hb dX7_prices_149 (by decide) ?_
              refine lv_istore (lv' := [(12, .int (nI (1))), (10, .double ((sRate (rCw sd mfx mce) mgm) (48 * t + 4 * i + j))), (8, .double ((sBase mlc mlg pr0) (48 * t + 4 * i + j))), (0, .ref a_mod), (1, .int (nI (t))), (2, .int (nI (i))), (3, .int (nI (sd))), (4, .int (nI (1152 * sd))), (5, .double its), (7, .int (nI (j)))]) hx hb dX7_prices_153 hl (by decide) rfl (fun ls hl => ?_)
              refine lv_aload_n hx hb dX7_prices_155 rfl (lv_at hl 3 rfl) ?_
              refine va_get (D := D) (ci := 8) (v := .ref a_mpr) (C := RX7) (T := TX7) (N := 33) hx hb hts in_RX7 hown hE.1 (gv1 hP f_mod) 0 rfl rfl 17 (by decide) (hts (.fieldLink RX7 47 "BasketryOfficeModel" "price" "[D") (by decide +kernel)) (fun _ h9 => h9) rfl dX7_prices_156 ?_
              refine lv_iload hx hb dX7_prices_159 (lv_at hl 7 rfl) ?_
              refine lv_iload_n hx hb dX7_prices_161 rfl (lv_at hl 4 rfl) ?_
              refine lv_iload_n hx hb dX7_prices_162 rfl (lv_at hl 5 rfl) ?_
              refine lv_iload hx hb dX7_prices_163 (lv_at hl 9 rfl) ?_
              refine gc_S_i (As := [.int (nI (t)), .int (nI (i)), .int (nI (j))]) (rest := [.int (nI (1152 * sd)), .ref a_mpr]) (c_X7_cell l) ⟨hx, hb, hml, hown, hts⟩ (va_cwS 3 hts gX7_prices_X7_cell rfl rfl rfl (by decide +kernel) ⟨Nat.le_of_ble_eq_true rfl, Nat.le_of_ble_eq_true rfl⟩) hE hP hD hS hA rfl rfl hl.1 (Nat.le_of_ble_eq_true rfl) dX7_prices_165 ⟨Nat.le_of_ble_eq_true rfl, Nat.le_of_ble_eq_true rfl⟩ (fun r_165 u_165 H locs hP hD hS q_165 => ?_)
              subst q_165
              refine g_iadd hx hb dX7_prices_168 (nI_add _ _) ?_
              refine lv_iload hx hb dX7_prices_169 (lv_at hl 0 rfl) ?_
              refine g_if_eq (tgt := 179) hx hb (by omega) dX7_prices_171 (by decide) (fun c_171 => absurd c_171 (by omega)) (fun c_171 => ?_)
              refine lv_dload hx hb dX7_prices_174 (lv_at hl 1 rfl) ?_
              refine lv_goto (tgt := 207) hx hb dX7_prices_176 (by decide) ?_
              refine g_dv (v' := (rPrice (rK mcf (rCw sd mfx mce) mgm mlc mlg pr0) (sRate (rCw sd mfx mce) mgm) (sBase mlc mlg pr0) its) (48 * t + 4 * i + j)) (rP_2 (Or.inr c_144)) ?_
              refine g_dast hx hb hE hP hD hS _ f_mpr (by omega) (by decide) dX7_prices_207 (fun H locs hP hD hS => ?_)
              have hP := g_trP g_ss hP
              have hD := g_trD g_ss hD
              refine lv_iinc (v := nI (j + 1)) (lv' := [(7, .int (nI (j + 1))), (12, .int (nI (1))), (10, .double ((sRate (rCw sd mfx mce) mgm) (48 * t + 4 * i + j))), (8, .double ((sBase mlc mlg pr0) (48 * t + 4 * i + j))), (0, .ref a_mod), (1, .int (nI (t))), (2, .int (nI (i))), (3, .int (nI (sd))), (4, .int (nI (1152 * sd))), (5, .double its)]) hx hb dX7_prices_208 hl (k := 9) rfl (nI_add _ 1) (by decide) rfl (fun ls hl => ?_)
              refine lv_goto (tgt := 85) hx hb dX7_prices_211 (by decide) ?_
              have hP : gvP D vwCl (((ws.set p_mim (a_mim, eZ y 2304 (bF (rK mcf (rCw sd mfx mce) mgm mlc mlg pr0) (1152 * sd) (48 * t + 4 * i) mim (4)))).set p_mre (a_mre, eD y 576 (vf_upd mre ((12 * ((24 * sd) + t)) + i) (its)))).set p_mpr (a_mpr, eD y 2304 (dF (rPrice (rK mcf (rCw sd mfx mce) mgm mlc mlg pr0) (sRate (rCw sd mfx mce) mgm) (sBase mlc mlg pr0) its) (1152 * sd) (48 * t + 4 * i) mpr (j + 1)))) _ := g_trP (rfl) hP
              have hD : gvD A (((ws.set p_mim (a_mim, eZ y 2304 (bF (rK mcf (rCw sd mfx mce) mgm mlc mlg pr0) (1152 * sd) (48 * t + 4 * i) mim (4)))).set p_mre (a_mre, eD y 576 (vf_upd mre ((12 * ((24 * sd) + t)) + i) (its)))).set p_mpr (a_mpr, eD y 2304 (dF (rPrice (rK mcf (rCw sd mfx mce) mgm mlc mlg pr0) (sRate (rCw sd mfx mce) mgm) (sBase mlc mlg pr0) its) (1152 * sd) (48 * t + 4 * i) mpr (j + 1)))) := g_trD (rfl) hD
              exact ih_j H locs ls hP hD hS (lv_sub hl [4, 5, 6, 7, 8, 9, 0] rfl)
    · refine g_dconst0 hx hb dX7_prices_50 ?_
      refine lv_goto (tgt := 62) hx hb dX7_prices_51 (by decide) ?_
      refine g_dv (v' := its) (hits.trans (sRelI_0 c_47 hi)).symm ?_
      refine lv_dstore (lv' := [(5, .double its), (0, .ref a_mod), (1, .int (nI (t))), (2, .int (nI (i))), (3, .int (nI (sd))), (4, .int (nI (1152 * sd)))]) hx hb dX7_prices_62 hl (by decide) rfl (fun ls hl => ?_)
      refine lv_aload_n hx hb dX7_prices_64 rfl (lv_at hl 1 rfl) ?_
      have f_mod := g_ne (x := (a_mim, eZ y 2304 (bF (rK mcf (rCw sd mfx mce) mgm mlc mlg pr0) (1152 * sd) (48 * t + 4 * i) mim (4)))) (g_kne f0_mim f0_mod (Nat.ne_of_beq_eq_false rfl)) (f0_mod)
      refine va_get (D := D) (ci := 8) (v := .ref a_mre) (C := RX7) (T := TX7) (N := 33) hx hb hts in_RX7 hown hE.1 (gv1 hP f_mod) 0 rfl rfl 19 (by decide) (hts (.fieldLink RX7 54 "BasketryOfficeModel" "relative" "[D") (by decide +kernel)) (fun _ h9 => h9) rfl dX7_prices_65 ?_
      refine lv_bipush (v := nI 12) hx hb dX7_prices_68 (by decide) ?_
      refine lv_bipush (v := nI 24) hx hb dX7_prices_70 (by decide) ?_
      refine lv_iload_n hx hb dX7_prices_72 rfl (lv_at hl 4 rfl) ?_
      refine g_imul hx hb dX7_prices_73 (pk_mul _ _) ?_
      refine lv_iload_n hx hb dX7_prices_74 rfl (lv_at hl 2 rfl) ?_
      refine g_iadd hx hb dX7_prices_75 (nI_add _ _) ?_
      refine g_imul hx hb dX7_prices_76 (pk_mul _ _) ?_
      refine lv_iload_n hx hb dX7_prices_77 rfl (lv_at hl 3 rfl) ?_
      refine g_iadd hx hb dX7_prices_78 (nI_add _ _) ?_
      refine lv_dload hx hb dX7_prices_79 (lv_at hl 0 rfl) ?_
      have f_mre := g_ne (x := (a_mim, eZ y 2304 (bF (rK mcf (rCw sd mfx mce) mgm mlc mlg pr0) (1152 * sd) (48 * t + 4 * i) mim (4)))) (g_kne f0_mim f0_mre (Nat.ne_of_beq_eq_false rfl)) (f0_mre)
      refine g_dast hx hb hE hP hD hS _ f_mre (by omega) (by decide) dX7_prices_81 (fun H locs hP hD hS => ?_)
      refine lv_iconst (v := nI 0) hx hb dX7_prices_82 (by decide) ?_
      refine lv_istore (lv' := [(7, .int (nI (0))), (5, .double its), (0, .ref a_mod), (1, .int (nI (t))), (2, .int (nI (i))), (3, .int (nI (sd))), (4, .int (nI (1152 * sd)))]) hx hb dX7_prices_83 hl (by decide) rfl (fun ls hl => ?_)
      have f_mpr := g_ne (x := (a_mre, eD y 576 (vf_upd mre ((12 * ((24 * sd) + t)) + i) (its)))) (Ne.symm hdis.1) (g_ne (x := (a_mim, eZ y 2304 (bF (rK mcf (rCw sd mfx mce) mgm mlc mlg pr0) (1152 * sd) (48 * t + 4 * i) mim (4)))) (g_kne f0_mim f0_mpr (Nat.ne_of_beq_eq_false rfl)) (f0_mpr))
      have hP := g_trP (g_same f_mpr) hP
      have hD := g_trD (g_same f_mpr) hD
      have hP : gvP D vwCl (((ws.set p_mim (a_mim, eZ y 2304 (bF (rK mcf (rCw sd mfx mce) mgm mlc mlg pr0) (1152 * sd) (48 * t + 4 * i) mim (4)))).set p_mre (a_mre, eD y 576 (vf_upd mre ((12 * ((24 * sd) + t)) + i) (its)))).set p_mpr (a_mpr, eD y 2304 (dF (rPrice (rK mcf (rCw sd mfx mce) mgm mlc mlg pr0) (sRate (rCw sd mfx mce) mgm) (sBase mlc mlg pr0) its) (1152 * sd) (48 * t + 4 * i) mpr (0)))) _ := g_trP (rfl) hP
      have hD : gvD A (((ws.set p_mim (a_mim, eZ y 2304 (bF (rK mcf (rCw sd mfx mce) mgm mlc mlg pr0) (1152 * sd) (48 * t + 4 * i) mim (4)))).set p_mre (a_mre, eD y 576 (vf_upd mre ((12 * ((24 * sd) + t)) + i) (its)))).set p_mpr (a_mpr, eD y 2304 (dF (rPrice (rK mcf (rCw sd mfx mce) mgm mlc mlg pr0) (sRate (rCw sd mfx mce) mgm) (sBase mlc mlg pr0) its) (1152 * sd) (48 * t + 4 * i) mpr (0)))) := g_trD (rfl) hD
      refine g_for (fun j => (((ws.set p_mim (a_mim, eZ y 2304 (bF (rK mcf (rCw sd mfx mce) mgm mlc mlg pr0) (1152 * sd) (48 * t + 4 * i) mim (4)))).set p_mre (a_mre, eD y 576 (vf_upd mre ((12 * ((24 * sd) + t)) + i) (its)))).set p_mpr (a_mpr, eD y 2304 (dF (rPrice (rK mcf (rCw sd mfx mce) mgm mlc mlg pr0) (sRate (rCw sd mfx mce) mgm) (sBase mlc mlg pr0) its) (1152 * sd) (48 * t + 4 * i) mpr (j))))) (fun j => [(0, .ref a_mod), (1, .int (nI (t))), (2, .int (nI (i))), (3, .int (nI (sd))), (4, .int (nI (1152 * sd))), (5, .double its), (7, .int (nI (j)))]) (4) (0) (by omega) ?_ ?_ hP hD hS (lv_sub hl [2, 3, 4, 5, 6, 1, 0] rfl)
      · intro H locs ls hP hD hS hl
        have hP : gvP D vwCl (((ws.set p_mim (a_mim, eZ y 2304 (bF (rK mcf (rCw sd mfx mce) mgm mlc mlg pr0) (1152 * sd) (48 * t + 4 * i) mim (4)))).set p_mre (a_mre, eD y 576 (vf_upd mre ((12 * ((24 * sd) + t)) + i) (its)))).set p_mpr (a_mpr, eD y 2304 (dF (rPrice (rK mcf (rCw sd mfx mce) mgm mlc mlg pr0) (sRate (rCw sd mfx mce) mgm) (sBase mlc mlg pr0) its) (1152 * sd) (48 * t + 4 * i) mpr (4)))) H := hP
        have hD : gvD A (((ws.set p_mim (a_mim, eZ y 2304 (bF (rK mcf (rCw sd mfx mce) mgm mlc mlg pr0) (1152 * sd) (48 * t + 4 * i) mim (4)))).set p_mre (a_mre, eD y 576 (vf_upd mre ((12 * ((24 * sd) + t)) + i) (its)))).set p_mpr (a_mpr, eD y 2304 (dF (rPrice (rK mcf (rCw sd mfx mce) mgm mlc mlg pr0) (sRate (rCw sd mfx mce) mgm) (sBase mlc mlg pr0) its) (1152 * sd) (48 * t + 4 * i) mpr (4)))) := hD
        have hl : lv_has ls 13 [(0, .ref a_mod), (1, .int (nI (t))), (2, .int (nI (i))), (3, .int (nI (sd))), (4, .int (nI (1152 * sd))), (5, .double its), (7, .int (nI (4)))] := hl
        refine lv_iload hx hb dX7_prices_85 (lv_at hl 6 rfl) ?_
        refine lv_iconst (v := nI 4) hx hb dX7_prices_87 (by decide) ?_
        refine g_icmp_ge (tgt := 214) hx hb (by omega) (by omega) dX7_prices_88 (by decide) (fun c_88 => ?_) (fun c_88 => absurd c_88 (by omega))
        refine g_vret hx hb hr hlocks () dX7_prices_214 hS hP hD ?_
        exact trivial
      · intro j hj_j ih_j H locs ls hP hD hS hl
        have hP : gvP D vwCl (((ws.set p_mim (a_mim, eZ y 2304 (bF (rK mcf (rCw sd mfx mce) mgm mlc mlg pr0) (1152 * sd) (48 * t + 4 * i) mim (4)))).set p_mre (a_mre, eD y 576 (vf_upd mre ((12 * ((24 * sd) + t)) + i) (its)))).set p_mpr (a_mpr, eD y 2304 (dF (rPrice (rK mcf (rCw sd mfx mce) mgm mlc mlg pr0) (sRate (rCw sd mfx mce) mgm) (sBase mlc mlg pr0) its) (1152 * sd) (48 * t + 4 * i) mpr (j)))) H := hP
        have hD : gvD A (((ws.set p_mim (a_mim, eZ y 2304 (bF (rK mcf (rCw sd mfx mce) mgm mlc mlg pr0) (1152 * sd) (48 * t + 4 * i) mim (4)))).set p_mre (a_mre, eD y 576 (vf_upd mre ((12 * ((24 * sd) + t)) + i) (its)))).set p_mpr (a_mpr, eD y 2304 (dF (rPrice (rK mcf (rCw sd mfx mce) mgm mlc mlg pr0) (sRate (rCw sd mfx mce) mgm) (sBase mlc mlg pr0) its) (1152 * sd) (48 * t + 4 * i) mpr (j)))) := hD
        have hl : lv_has ls 13 [(0, .ref a_mod), (1, .int (nI (t))), (2, .int (nI (i))), (3, .int (nI (sd))), (4, .int (nI (1152 * sd))), (5, .double its), (7, .int (nI (j)))] := hl
        have eK : 48 * t + 4 * i + j = t * 48 + i * 4 + 0 + j := by omega
        have hpj : prEq t (fun k => (dF (rPrice (rK mcf (rCw sd mfx mce) mgm mlc mlg pr0) (sRate (rCw sd mfx mce) mgm) (sBase mlc mlg pr0) its) (1152 * sd) (48 * t + 4 * i) mpr j) (1152 * sd + k)) pr0 := dF_prEq hpr (by omega)
        have eb : mBase mlc mlg (dF (rPrice (rK mcf (rCw sd mfx mce) mgm mlc mlg pr0) (sRate (rCw sd mfx mce) mgm) (sBase mlc mlg pr0) its) (1152 * sd) (48 * t + 4 * i) mpr j) t i j sd = (sBase mlc mlg pr0) (48 * t + 4 * i + j) := (mBase_s hi hj_j hlg).trans (sBase_eq hpj (by omega))
        have er : mRate (rCw sd mfx mce) mgm (48 * t + 4 * i + j) = (sRate (rCw sd mfx mce) mgm) (48 * t + 4 * i + j) := mRate_s hgm hcg _
        have eM : (bF (rK mcf (rCw sd mfx mce) mgm mlc mlg pr0) (1152 * sd) (48 * t + 4 * i) mim 4) (1152 * sd + (48 * t + 4 * i + j)) = (rK mcf (rCw sd mfx mce) mgm mlc mlg pr0) (48 * t + 4 * i + j) := bF_in (by omega) (by omega)
        have pr9 : P0 ((sRate (rCw sd mfx mce) mgm) (48 * t + 4 * i + j)) := (hpos j hj_j).1
        have pb9 : P0 ((sBase mlc mlg pr0) (48 * t + 4 * i + j)) := (hpos j hj_j).2
        have nn3 := hnn.2.2 j hj_j
        rw [← eK, ← hits] at nn3
        refine lv_iload hx hb dX7_prices_85 (lv_at hl 6 rfl) ?_
        refine lv_iconst (v := nI 4) hx hb dX7_prices_87 (by decide) ?_
        refine g_icmp_ge (tgt := 214) hx hb (by omega) (by omega) dX7_prices_88 (by decide) (fun c_88 => absurd c_88 (by omega)) (fun c_88 => ?_)
        refine lv_aload_n hx hb dX7_prices_91 rfl (lv_at hl 0 rfl) ?_
        refine lv_iload_n hx hb dX7_prices_92 rfl (lv_at hl 1 rfl) ?_
        refine lv_iload_n hx hb dX7_prices_93 rfl (lv_at hl 2 rfl) ?_
        refine lv_iload hx hb dX7_prices_94 (lv_at hl 6 rfl) ?_
        refine lv_iload_n hx hb dX7_prices_96 rfl (lv_at hl 3 rfl) ?_
        have f_mod := g_ne (x := (a_mpr, eD y 2304 (dF (rPrice (rK mcf (rCw sd mfx mce) mgm mlc mlg pr0) (sRate (rCw sd mfx mce) mgm) (sBase mlc mlg pr0) its) (1152 * sd) (48 * t + 4 * i) mpr (j)))) (g_kne f0_mpr f0_mod (Nat.ne_of_beq_eq_false rfl)) (g_ne (x := (a_mre, eD y 576 (vf_upd mre ((12 * ((24 * sd) + t)) + i) (its)))) (g_kne f0_mre f0_mod (Nat.ne_of_beq_eq_false rfl)) (g_ne (x := (a_mim, eZ y 2304 (bF (rK mcf (rCw sd mfx mce) mgm mlc mlg pr0) (1152 * sd) (48 * t + 4 * i) mim (4)))) (g_kne f0_mim f0_mod (Nat.ne_of_beq_eq_false rfl)) (f0_mod)))
        have f_mlc := g_ne (x := (a_mpr, eD y 2304 (dF (rPrice (rK mcf (rCw sd mfx mce) mgm mlc mlg pr0) (sRate (rCw sd mfx mce) mgm) (sBase mlc mlg pr0) its) (1152 * sd) (48 * t + 4 * i) mpr (j)))) (g_kne f0_mpr f0_mlc (Nat.ne_of_beq_eq_false rfl)) (g_ne (x := (a_mre, eD y 576 (vf_upd mre ((12 * ((24 * sd) + t)) + i) (its)))) (g_kne f0_mre f0_mlc (Nat.ne_of_beq_eq_false rfl)) (g_ne (x := (a_mim, eZ y 2304 (bF (rK mcf (rCw sd mfx mce) mgm mlc mlg pr0) (1152 * sd) (48 * t + 4 * i) mim (4)))) hdis.2.2.2.2.2.1 (f0_mlc)))
        have f_mlg := g_ne (x := (a_mpr, eD y 2304 (dF (rPrice (rK mcf (rCw sd mfx mce) mgm mlc mlg pr0) (sRate (rCw sd mfx mce) mgm) (sBase mlc mlg pr0) its) (1152 * sd) (48 * t + 4 * i) mpr (j)))) (g_kne f0_mpr f0_mlg (Nat.ne_of_beq_eq_false rfl)) (g_ne (x := (a_mre, eD y 576 (vf_upd mre ((12 * ((24 * sd) + t)) + i) (its)))) (g_kne f0_mre f0_mlg (Nat.ne_of_beq_eq_false rfl)) (g_ne (x := (a_mim, eZ y 2304 (bF (rK mcf (rCw sd mfx mce) mgm mlc mlg pr0) (1152 * sd) (48 * t + 4 * i) mim (4)))) hdis.2.2.2.2.2.2.1 (f0_mlg)))
        have f_mpr := g_eq (x := (a_mpr, eD y 2304 (dF (rPrice (rK mcf (rCw sd mfx mce) mgm mlc mlg pr0) (sRate (rCw sd mfx mce) mgm) (sBase mlc mlg pr0) its) (1152 * sd) (48 * t + 4 * i) mpr (j)))) (g_ne (x := (a_mre, eD y 576 (vf_upd mre ((12 * ((24 * sd) + t)) + i) (its)))) (Ne.symm hdis.1) (g_ne (x := (a_mim, eZ y 2304 (bF (rK mcf (rCw sd mfx mce) mgm mlc mlg pr0) (1152 * sd) (48 * t + 4 * i) mim (4)))) (g_kne f0_mim f0_mpr (Nat.ne_of_beq_eq_false rfl)) (f0_mpr)))
        refine gc_V_d (As := [.int (nI (t)), .int (nI (i)), .int (nI (j)), .int (nI (sd))]) (rest := []) (c_X7_base l f_mod f_mlc f_mlg f_mpr b_mlc b_mlg ht hi hj_j hsd hlg) ⟨hx, hb, hml, hown, hts⟩ (cwV 4 hts gX7_prices_X7_base rfl rfl rfl (by decide +kernel) ⟨Nat.le_of_ble_eq_true rfl, Nat.le_of_ble_eq_true rfl⟩) hE hP hD hS hA _ f_mod rfl rfl rfl rfl hl.1 (Nat.le_of_ble_eq_true rfl) dX7_prices_97 ⟨Nat.le_of_ble_eq_true rfl, Nat.le_of_ble_eq_true rfl⟩ (fun r_97 u_97 H locs hP hD hS q_97 => ?_)
        have q9 := q_97.trans eb
        subst q9
        refine lv_dstore (lv' := [(8, .double ((sBase mlc mlg pr0) (48 * t + 4 * i + j))), (0, .ref a_mod), (1, .int (nI (t))), (2, .int (nI (i))), (3, .int (nI (sd))), (4, .int (nI (1152 * sd))), (5, .double its), (7, .int (nI (j)))]) hx hb dX7_prices_100 hl (by decide) rfl (fun ls hl => ?_)
        refine lv_aload_n hx hb dX7_prices_102 rfl (lv_at hl 1 rfl) ?_
        refine lv_iload_n hx hb dX7_prices_103 rfl (lv_at hl 2 rfl) ?_
        refine lv_iload_n hx hb dX7_prices_104 rfl (lv_at hl 3 rfl) ?_
        refine lv_iload hx hb dX7_prices_105 (lv_at hl 7 rfl) ?_
        refine gc_S_i (As := [.int (nI (t)), .int (nI (i)), .int (nI (j))]) (rest := [.ref a_mod]) (c_X7_cell l) ⟨hx, hb, hml, hown, hts⟩ (va_cwS 3 hts gX7_prices_X7_cell rfl rfl rfl (by decide +kernel) ⟨Nat.le_of_ble_eq_true rfl, Nat.le_of_ble_eq_true rfl⟩) hE hP hD hS hA rfl rfl hl.1 (Nat.le_of_ble_eq_true rfl) dX7_prices_107 ⟨Nat.le_of_ble_eq_true rfl, Nat.le_of_ble_eq_true rfl⟩ (fun r_107 u_107 H locs hP hD hS q_107 => ?_)
        subst q_107
        refine lv_iload_n hx hb dX7_prices_110 rfl (lv_at hl 4 rfl) ?_
        have f_mce := g_ne (x := (a_mpr, eD y 2304 (dF (rPrice (rK mcf (rCw sd mfx mce) mgm mlc mlg pr0) (sRate (rCw sd mfx mce) mgm) (sBase mlc mlg pr0) its) (1152 * sd) (48 * t + 4 * i) mpr (j)))) (g_kne f0_mpr f0_mce (Nat.ne_of_beq_eq_false rfl)) (g_ne (x := (a_mre, eD y 576 (vf_upd mre ((12 * ((24 * sd) + t)) + i) (its)))) (g_kne f0_mre f0_mce (Nat.ne_of_beq_eq_false rfl)) (g_ne (x := (a_mim, eZ y 2304 (bF (rK mcf (rCw sd mfx mce) mgm mlc mlg pr0) (1152 * sd) (48 * t + 4 * i) mim (4)))) hdis.2.1 (f0_mce)))
        have f_mgm := g_ne (x := (a_mpr, eD y 2304 (dF (rPrice (rK mcf (rCw sd mfx mce) mgm mlc mlg pr0) (sRate (rCw sd mfx mce) mgm) (sBase mlc mlg pr0) its) (1152 * sd) (48 * t + 4 * i) mpr (j)))) (g_kne f0_mpr f0_mgm (Nat.ne_of_beq_eq_false rfl)) (g_ne (x := (a_mre, eD y 576 (vf_upd mre ((12 * ((24 * sd) + t)) + i) (its)))) (g_kne f0_mre f0_mgm (Nat.ne_of_beq_eq_false rfl)) (g_ne (x := (a_mim, eZ y 2304 (bF (rK mcf (rCw sd mfx mce) mgm mlc mlg pr0) (1152 * sd) (48 * t + 4 * i) mim (4)))) hdis.2.2.1 (f0_mgm)))
        have f_mfx := g_ne (x := (a_mpr, eD y 2304 (dF (rPrice (rK mcf (rCw sd mfx mce) mgm mlc mlg pr0) (sRate (rCw sd mfx mce) mgm) (sBase mlc mlg pr0) its) (1152 * sd) (48 * t + 4 * i) mpr (j)))) (g_kne f0_mpr f0_mfx (Nat.ne_of_beq_eq_false rfl)) (g_ne (x := (a_mre, eD y 576 (vf_upd mre ((12 * ((24 * sd) + t)) + i) (its)))) (g_kne f0_mre f0_mfx (Nat.ne_of_beq_eq_false rfl)) (g_ne (x := (a_mim, eZ y 2304 (bF (rK mcf (rCw sd mfx mce) mgm mlc mlg pr0) (1152 * sd) (48 * t + 4 * i) mim (4)))) hdis.2.2.2.1 (f0_mfx)))
        refine gc_V_d (As := [.int (nI (48 * (t) + 4 * (i) + (j))), .int (nI (sd))]) (rest := []) (c_X7_rate l f_mod f_mce f_mgm f_mfx b_mce b_mgm b_mfx (by omega) hsd (hgm _)) ⟨hx, hb, hml, hown, hts⟩ (cwV 2 hts gX7_prices_X7_rate rfl rfl rfl (by decide +kernel) ⟨Nat.le_of_ble_eq_true rfl, Nat.le_of_ble_eq_true rfl⟩) hE hP hD hS hA _ f_mod rfl rfl rfl rfl hl.1 (Nat.le_of_ble_eq_true rfl) dX7_prices_111 ⟨Nat.le_of_ble_eq_true rfl, Nat.le_of_ble_eq_true rfl⟩ (fun r_111 u_111 H locs hP hD hS q_111 => ?_)
        have q9 := q_111.trans er
        subst q9
        refine lv_dstore (lv' := [(10, .double ((sRate (rCw sd mfx mce) mgm) (48 * t + 4 * i + j))), (8, .double ((sBase mlc mlg pr0) (48 * t + 4 * i + j))), (0, .ref a_mod), (1, .int (nI (t))), (2, .int (nI (i))), (3, .int (nI (sd))), (4, .int (nI (1152 * sd))), (5, .double its), (7, .int (nI (j)))]) hx hb dX7_prices_114 hl (by decide) rfl (fun ls hl => ?_)
        refine lv_aload_n hx hb dX7_prices_116 rfl (lv_at hl 2 rfl) ?_
        refine va_get (D := D) (ci := 8) (v := .ref a_mim) (C := RX7) (T := TX7) (N := 33) hx hb hts in_RX7 hown hE.1 (gv1 hP f_mod) 0 rfl rfl 18 (by decide) (hts (.fieldLink RX7 51 "BasketryOfficeModel" "isMatched" "[Z") (by decide +kernel)) (fun _ h9 => h9) rfl dX7_prices_117 ?_
        refine lv_iload hx hb dX7_prices_120 (lv_at hl 6 rfl) ?_
        refine lv_iload_n hx hb dX7_prices_122 rfl (lv_at hl 3 rfl) ?_
        refine lv_iload_n hx hb dX7_prices_123 rfl (lv_at hl 4 rfl) ?_
        refine lv_iload hx hb dX7_prices_124 (lv_at hl 8 rfl) ?_
        refine gc_S_i (As := [.int (nI (t)), .int (nI (i)), .int (nI (j))]) (rest := [.int (nI (1152 * sd)), .ref a_mim]) (c_X7_cell l) ⟨hx, hb, hml, hown, hts⟩ (va_cwS 3 hts gX7_prices_X7_cell rfl rfl rfl (by decide +kernel) ⟨Nat.le_of_ble_eq_true rfl, Nat.le_of_ble_eq_true rfl⟩) hE hP hD hS hA rfl rfl hl.1 (Nat.le_of_ble_eq_true rfl) dX7_prices_126 ⟨Nat.le_of_ble_eq_true rfl, Nat.le_of_ble_eq_true rfl⟩ (fun r_126 u_126 H locs hP hD hS q_126 => ?_)
        subst q_126
        refine g_iadd hx hb dX7_prices_129 (nI_add _ _) ?_
        have f_mim := g_ne (x := (a_mpr, eD y 2304 (dF (rPrice (rK mcf (rCw sd mfx mce) mgm mlc mlg pr0) (sRate (rCw sd mfx mce) mgm) (sBase mlc mlg pr0) its) (1152 * sd) (48 * t + 4 * i) mpr (j)))) (g_kne f0_mpr f0_mim (Nat.ne_of_beq_eq_false rfl)) (g_ne (x := (a_mre, eD y 576 (vf_upd mre ((12 * ((24 * sd) + t)) + i) (its)))) (g_kne f0_mre f0_mim (Nat.ne_of_beq_eq_false rfl)) (g_eq (x := (a_mim, eZ y 2304 (bF (rK mcf (rCw sd mfx mce) mgm mlc mlg pr0) (1152 * sd) (48 * t + 4 * i) mim (4)))) (f0_mim)))
        refine g_zald hx hb hE hP _ f_mim (by omega) (by decide) dX7_prices_130 ?_
        refine g_bif_ne (tgt := 148) hx hb dX7_prices_131 (by decide) (fun c_131 => ?_) (fun c_131 => ?_)
        · refine lv_iconst (v := nI 1) hx hb dX7_prices_148 (by decide) ?_
          refine lv_goto (tgt := 153) hx hb dX7_prices_149 (by decide) ?_
          refine lv_istore (lv' := [(12, .int (nI (1))), (10, .double ((sRate (rCw sd mfx mce) mgm) (48 * t + 4 * i + j))), (8, .double ((sBase mlc mlg pr0) (48 * t + 4 * i + j))), (0, .ref a_mod), (1, .int (nI (t))), (2, .int (nI (i))), (3, .int (nI (sd))), (4, .int (nI (1152 * sd))), (5, .double its), (7, .int (nI (j)))]) hx hb dX7_prices_153 hl (by decide) rfl (fun ls hl => ?_)
          refine lv_aload_n hx hb dX7_prices_155 rfl (lv_at hl 3 rfl) ?_
          refine va_get (D := D) (ci := 8) (v := .ref a_mpr) (C := RX7) (T := TX7) (N := 33) hx hb hts in_RX7 hown hE.1 (gv1 hP f_mod) 0 rfl rfl 17 (by decide) (hts (.fieldLink RX7 47 "BasketryOfficeModel" "price" "[D") (by decide +kernel)) (fun _ h9 => h9) rfl dX7_prices_156 ?_
          refine lv_iload hx hb dX7_prices_159 (lv_at hl 7 rfl) ?_
          refine lv_iload_n hx hb dX7_prices_161 rfl (lv_at hl 4 rfl) ?_
          refine lv_iload_n hx hb dX7_prices_162 rfl (lv_at hl 5 rfl) ?_
          refine lv_iload hx hb dX7_prices_163 (lv_at hl 9 rfl) ?_
          refine gc_S_i (As := [.int (nI (t)), .int (nI (i)), .int (nI (j))]) (rest := [.int (nI (1152 * sd)), .ref a_mpr]) (c_X7_cell l) ⟨hx, hb, hml, hown, hts⟩ (va_cwS 3 hts gX7_prices_X7_cell rfl rfl rfl (by decide +kernel) ⟨Nat.le_of_ble_eq_true rfl, Nat.le_of_ble_eq_true rfl⟩) hE hP hD hS hA rfl rfl hl.1 (Nat.le_of_ble_eq_true rfl) dX7_prices_165 ⟨Nat.le_of_ble_eq_true rfl, Nat.le_of_ble_eq_true rfl⟩ (fun r_165 u_165 H locs hP hD hS q_165 => ?_)
          subst q_165
          refine g_iadd hx hb dX7_prices_168 (nI_add _ _) ?_
          refine lv_iload hx hb dX7_prices_169 (lv_at hl 0 rfl) ?_
          refine g_if_eq (tgt := 179) hx hb (by omega) dX7_prices_171 (by decide) (fun c_171 => absurd c_171 (by omega)) (fun c_171 => ?_)
          refine lv_dload hx hb dX7_prices_174 (lv_at hl 1 rfl) ?_
          refine lv_goto (tgt := 207) hx hb dX7_prices_176 (by decide) ?_
          refine g_dv (v' := (rPrice (rK mcf (rCw sd mfx mce) mgm mlc mlg pr0) (sRate (rCw sd mfx mce) mgm) (sBase mlc mlg pr0) its) (48 * t + 4 * i + j)) (rP_1 (eM.symm.trans c_131)) ?_
          refine g_dast hx hb hE hP hD hS _ f_mpr (by omega) (by decide) dX7_prices_207 (fun H locs hP hD hS => ?_)
          have hP := g_trP g_ss hP
          have hD := g_trD g_ss hD
          refine lv_iinc (v := nI (j + 1)) (lv' := [(7, .int (nI (j + 1))), (12, .int (nI (1))), (10, .double ((sRate (rCw sd mfx mce) mgm) (48 * t + 4 * i + j))), (8, .double ((sBase mlc mlg pr0) (48 * t + 4 * i + j))), (0, .ref a_mod), (1, .int (nI (t))), (2, .int (nI (i))), (3, .int (nI (sd))), (4, .int (nI (1152 * sd))), (5, .double its)]) hx hb dX7_prices_208 hl (k := 9) rfl (nI_add _ 1) (by decide) rfl (fun ls hl => ?_)
          refine lv_goto (tgt := 85) hx hb dX7_prices_211 (by decide) ?_
          have hP : gvP D vwCl (((ws.set p_mim (a_mim, eZ y 2304 (bF (rK mcf (rCw sd mfx mce) mgm mlc mlg pr0) (1152 * sd) (48 * t + 4 * i) mim (4)))).set p_mre (a_mre, eD y 576 (vf_upd mre ((12 * ((24 * sd) + t)) + i) (its)))).set p_mpr (a_mpr, eD y 2304 (dF (rPrice (rK mcf (rCw sd mfx mce) mgm mlc mlg pr0) (sRate (rCw sd mfx mce) mgm) (sBase mlc mlg pr0) its) (1152 * sd) (48 * t + 4 * i) mpr (j + 1)))) _ := g_trP (rfl) hP
          have hD : gvD A (((ws.set p_mim (a_mim, eZ y 2304 (bF (rK mcf (rCw sd mfx mce) mgm mlc mlg pr0) (1152 * sd) (48 * t + 4 * i) mim (4)))).set p_mre (a_mre, eD y 576 (vf_upd mre ((12 * ((24 * sd) + t)) + i) (its)))).set p_mpr (a_mpr, eD y 2304 (dF (rPrice (rK mcf (rCw sd mfx mce) mgm mlc mlg pr0) (sRate (rCw sd mfx mce) mgm) (sBase mlc mlg pr0) its) (1152 * sd) (48 * t + 4 * i) mpr (j + 1)))) := g_trD (rfl) hD
          exact ih_j H locs ls hP hD hS (lv_sub hl [4, 5, 6, 7, 8, 9, 0] rfl)
        · refine lv_dload hx hb dX7_prices_134 (lv_at hl 0 rfl) ?_
          refine g_dconst0 hx hb dX7_prices_136 ?_
          refine g_dcmpl_le (tgt := 152) hx hb dX7_prices_137 dX7_prices_138 (by decide) (fun c_137 => ?_) (fun c_137 => ?_)
          · refine lv_iconst (v := nI 0) hx hb dX7_prices_152 (by decide) ?_
            refine lv_istore (lv' := [(12, .int (nI (0))), (10, .double ((sRate (rCw sd mfx mce) mgm) (48 * t + 4 * i + j))), (8, .double ((sBase mlc mlg pr0) (48 * t + 4 * i + j))), (0, .ref a_mod), (1, .int (nI (t))), (2, .int (nI (i))), (3, .int (nI (sd))), (4, .int (nI (1152 * sd))), (5, .double its), (7, .int (nI (j)))]) hx hb dX7_prices_153 hl (by decide) rfl (fun ls hl => ?_)
            refine lv_aload_n hx hb dX7_prices_155 rfl (lv_at hl 3 rfl) ?_
            refine va_get (D := D) (ci := 8) (v := .ref a_mpr) (C := RX7) (T := TX7) (N := 33) hx hb hts in_RX7 hown hE.1 (gv1 hP f_mod) 0 rfl rfl 17 (by decide) (hts (.fieldLink RX7 47 "BasketryOfficeModel" "price" "[D") (by decide +kernel)) (fun _ h9 => h9) rfl dX7_prices_156 ?_
            refine lv_iload hx hb dX7_prices_159 (lv_at hl 7 rfl) ?_
            refine lv_iload_n hx hb dX7_prices_161 rfl (lv_at hl 4 rfl) ?_
            refine lv_iload_n hx hb dX7_prices_162 rfl (lv_at hl 5 rfl) ?_
            refine lv_iload hx hb dX7_prices_163 (lv_at hl 9 rfl) ?_
            refine gc_S_i (As := [.int (nI (t)), .int (nI (i)), .int (nI (j))]) (rest := [.int (nI (1152 * sd)), .ref a_mpr]) (c_X7_cell l) ⟨hx, hb, hml, hown, hts⟩ (va_cwS 3 hts gX7_prices_X7_cell rfl rfl rfl (by decide +kernel) ⟨Nat.le_of_ble_eq_true rfl, Nat.le_of_ble_eq_true rfl⟩) hE hP hD hS hA rfl rfl hl.1 (Nat.le_of_ble_eq_true rfl) dX7_prices_165 ⟨Nat.le_of_ble_eq_true rfl, Nat.le_of_ble_eq_true rfl⟩ (fun r_165 u_165 H locs hP hD hS q_165 => ?_)
            subst q_165
            refine g_iadd hx hb dX7_prices_168 (nI_add _ _) ?_
            refine lv_iload hx hb dX7_prices_169 (lv_at hl 0 rfl) ?_
            refine g_if_eq (tgt := 179) hx hb (by omega) dX7_prices_171 (by decide) (fun c_171 => ?_) (fun c_171 => absurd c_171 (by omega))
            refine lv_dload hx hb dX7_prices_179 (lv_at hl 2 rfl) ?_
            refine g_dconst0 hx hb dX7_prices_181 ?_
            refine g_dcmpl_ne (tgt := 190) hx hb dX7_prices_182 dX7_prices_183 (by decide) (fun c_182 => ?_) (fun c_182 => ?_)
            · refine lv_dload hx hb dX7_prices_190 (lv_at hl 8 rfl) ?_
              refine g_dconst0 hx hb dX7_prices_192 ?_
              refine g_dcmpl_le (tgt := 205) hx hb dX7_prices_193 dX7_prices_194 (by decide) (fun c_193 => ?_) (fun c_193 => ?_)
              · refine lv_dload hx hb dX7_prices_205 (lv_at hl 2 rfl) ?_
                refine g_dv (v' := (rPrice (rK mcf (rCw sd mfx mce) mgm mlc mlg pr0) (sRate (rCw sd mfx mce) mgm) (sBase mlc mlg pr0) its) (48 * t + 4 * i + j)) (rP_4 (fun z => c_182 (pb9.de.mpr z)) (eM.symm.trans c_131) c_193) ?_
                refine g_dast hx hb hE hP hD hS _ f_mpr (by omega) (by decide) dX7_prices_207 (fun H locs hP hD hS => ?_)
                have hP := g_trP g_ss hP
                have hD := g_trD g_ss hD
                refine lv_iinc (v := nI (j + 1)) (lv' := [(7, .int (nI (j + 1))), (12, .int (nI (0))), (10, .double ((sRate (rCw sd mfx mce) mgm) (48 * t + 4 * i + j))), (8, .double ((sBase mlc mlg pr0) (48 * t + 4 * i + j))), (0, .ref a_mod), (1, .int (nI (t))), (2, .int (nI (i))), (3, .int (nI (sd))), (4, .int (nI (1152 * sd))), (5, .double its)]) hx hb dX7_prices_208 hl (k := 9) rfl (nI_add _ 1) (by decide) rfl (fun ls hl => ?_)
                refine lv_goto (tgt := 85) hx hb dX7_prices_211 (by decide) ?_
                have hP : gvP D vwCl (((ws.set p_mim (a_mim, eZ y 2304 (bF (rK mcf (rCw sd mfx mce) mgm mlc mlg pr0) (1152 * sd) (48 * t + 4 * i) mim (4)))).set p_mre (a_mre, eD y 576 (vf_upd mre ((12 * ((24 * sd) + t)) + i) (its)))).set p_mpr (a_mpr, eD y 2304 (dF (rPrice (rK mcf (rCw sd mfx mce) mgm mlc mlg pr0) (sRate (rCw sd mfx mce) mgm) (sBase mlc mlg pr0) its) (1152 * sd) (48 * t + 4 * i) mpr (j + 1)))) _ := g_trP (rfl) hP
                have hD : gvD A (((ws.set p_mim (a_mim, eZ y 2304 (bF (rK mcf (rCw sd mfx mce) mgm mlc mlg pr0) (1152 * sd) (48 * t + 4 * i) mim (4)))).set p_mre (a_mre, eD y 576 (vf_upd mre ((12 * ((24 * sd) + t)) + i) (its)))).set p_mpr (a_mpr, eD y 2304 (dF (rPrice (rK mcf (rCw sd mfx mce) mgm mlc mlg pr0) (sRate (rCw sd mfx mce) mgm) (sBase mlc mlg pr0) its) (1152 * sd) (48 * t + 4 * i) mpr (j + 1)))) := g_trD (rfl) hD
                exact ih_j H locs ls hP hD hS (lv_sub hl [4, 5, 6, 7, 8, 9, 0] rfl)
              · refine lv_dload hx hb dX7_prices_197 (lv_at hl 2 rfl) ?_
                refine lv_dload hx hb dX7_prices_199 (lv_at hl 8 rfl) ?_
                refine lv_dmul hx hb dX7_prices_201 nn3 ?_
                refine lv_goto (tgt := 207) hx hb dX7_prices_202 (by decide) ?_
                refine g_dv (v' := (rPrice (rK mcf (rCw sd mfx mce) mgm mlc mlg pr0) (sRate (rCw sd mfx mce) mgm) (sBase mlc mlg pr0) its) (48 * t + 4 * i + j)) (rP_3 (fun z => c_182 (pb9.de.mpr z)) (eM.symm.trans c_131) c_193) ?_
                refine g_dast hx hb hE hP hD hS _ f_mpr (by omega) (by decide) dX7_prices_207 (fun H locs hP hD hS => ?_)
                have hP := g_trP g_ss hP
                have hD := g_trD g_ss hD
                refine lv_iinc (v := nI (j + 1)) (lv' := [(7, .int (nI (j + 1))), (12, .int (nI (0))), (10, .double ((sRate (rCw sd mfx mce) mgm) (48 * t + 4 * i + j))), (8, .double ((sBase mlc mlg pr0) (48 * t + 4 * i + j))), (0, .ref a_mod), (1, .int (nI (t))), (2, .int (nI (i))), (3, .int (nI (sd))), (4, .int (nI (1152 * sd))), (5, .double its)]) hx hb dX7_prices_208 hl (k := 9) rfl (nI_add _ 1) (by decide) rfl (fun ls hl => ?_)
                refine lv_goto (tgt := 85) hx hb dX7_prices_211 (by decide) ?_
                have hP : gvP D vwCl (((ws.set p_mim (a_mim, eZ y 2304 (bF (rK mcf (rCw sd mfx mce) mgm mlc mlg pr0) (1152 * sd) (48 * t + 4 * i) mim (4)))).set p_mre (a_mre, eD y 576 (vf_upd mre ((12 * ((24 * sd) + t)) + i) (its)))).set p_mpr (a_mpr, eD y 2304 (dF (rPrice (rK mcf (rCw sd mfx mce) mgm mlc mlg pr0) (sRate (rCw sd mfx mce) mgm) (sBase mlc mlg pr0) its) (1152 * sd) (48 * t + 4 * i) mpr (j + 1)))) _ := g_trP (rfl) hP
                have hD : gvD A (((ws.set p_mim (a_mim, eZ y 2304 (bF (rK mcf (rCw sd mfx mce) mgm mlc mlg pr0) (1152 * sd) (48 * t + 4 * i) mim (4)))).set p_mre (a_mre, eD y 576 (vf_upd mre ((12 * ((24 * sd) + t)) + i) (its)))).set p_mpr (a_mpr, eD y 2304 (dF (rPrice (rK mcf (rCw sd mfx mce) mgm mlc mlg pr0) (sRate (rCw sd mfx mce) mgm) (sBase mlc mlg pr0) its) (1152 * sd) (48 * t + 4 * i) mpr (j + 1)))) := g_trD (rfl) hD
                exact ih_j H locs ls hP hD hS (lv_sub hl [4, 5, 6, 7, 8, 9, 0] rfl)
            · refine g_dconst0 hx hb dX7_prices_186 ?_
              refine lv_goto (tgt := 207) hx hb dX7_prices_187 (by decide) ?_
              refine g_dv (v' := (rPrice (rK mcf (rCw sd mfx mce) mgm mlc mlg pr0) (sRate (rCw sd mfx mce) mgm) (sBase mlc mlg pr0) its) (48 * t + 4 * i + j)) ((pr9.ngt c_137).symm.trans (rP_2 (Or.inr c_182))) ?_
              refine g_dast hx hb hE hP hD hS _ f_mpr (by omega) (by decide) dX7_prices_207 (fun H locs hP hD hS => ?_)
              have hP := g_trP g_ss hP
              have hD := g_trD g_ss hD
              refine lv_iinc (v := nI (j + 1)) (lv' := [(7, .int (nI (j + 1))), (12, .int (nI (0))), (10, .double ((sRate (rCw sd mfx mce) mgm) (48 * t + 4 * i + j))), (8, .double ((sBase mlc mlg pr0) (48 * t + 4 * i + j))), (0, .ref a_mod), (1, .int (nI (t))), (2, .int (nI (i))), (3, .int (nI (sd))), (4, .int (nI (1152 * sd))), (5, .double its)]) hx hb dX7_prices_208 hl (k := 9) rfl (nI_add _ 1) (by decide) rfl (fun ls hl => ?_)
              refine lv_goto (tgt := 85) hx hb dX7_prices_211 (by decide) ?_
              have hP : gvP D vwCl (((ws.set p_mim (a_mim, eZ y 2304 (bF (rK mcf (rCw sd mfx mce) mgm mlc mlg pr0) (1152 * sd) (48 * t + 4 * i) mim (4)))).set p_mre (a_mre, eD y 576 (vf_upd mre ((12 * ((24 * sd) + t)) + i) (its)))).set p_mpr (a_mpr, eD y 2304 (dF (rPrice (rK mcf (rCw sd mfx mce) mgm mlc mlg pr0) (sRate (rCw sd mfx mce) mgm) (sBase mlc mlg pr0) its) (1152 * sd) (48 * t + 4 * i) mpr (j + 1)))) _ := g_trP (rfl) hP
              have hD : gvD A (((ws.set p_mim (a_mim, eZ y 2304 (bF (rK mcf (rCw sd mfx mce) mgm mlc mlg pr0) (1152 * sd) (48 * t + 4 * i) mim (4)))).set p_mre (a_mre, eD y 576 (vf_upd mre ((12 * ((24 * sd) + t)) + i) (its)))).set p_mpr (a_mpr, eD y 2304 (dF (rPrice (rK mcf (rCw sd mfx mce) mgm mlc mlg pr0) (sRate (rCw sd mfx mce) mgm) (sBase mlc mlg pr0) its) (1152 * sd) (48 * t + 4 * i) mpr (j + 1)))) := g_trD (rfl) hD
              exact ih_j H locs ls hP hD hS (lv_sub hl [4, 5, 6, 7, 8, 9, 0] rfl)
          · refine lv_dload hx hb dX7_prices_141 (lv_at hl 1 rfl) ?_
            refine g_dconst0 hx hb dX7_prices_143 ?_
            refine g_dcmpl_ne (tgt := 152) hx hb dX7_prices_144 dX7_prices_145 (by decide) (fun c_144 => ?_) (fun c_144 => ?_)
            · refine lv_iconst (v := nI 0) hx hb dX7_prices_152 (by decide) ?_
              refine lv_istore (lv' := [(12, .int (nI (0))), (10, .double ((sRate (rCw sd mfx mce) mgm) (48 * t + 4 * i + j))), (8, .double ((sBase mlc mlg pr0) (48 * t + 4 * i + j))), (0, .ref a_mod), (1, .int (nI (t))), (2, .int (nI (i))), (3, .int (nI (sd))), (4, .int (nI (1152 * sd))), (5, .double its), (7, .int (nI (j)))]) hx hb dX7_prices_153 hl (by decide) rfl (fun ls hl => ?_)
              refine lv_aload_n hx hb dX7_prices_155 rfl (lv_at hl 3 rfl) ?_
              refine va_get (D := D) (ci := 8) (v := .ref a_mpr) (C := RX7) (T := TX7) (N := 33) hx hb hts in_RX7 hown hE.1 (gv1 hP f_mod) 0 rfl rfl 17 (by decide) (hts (.fieldLink RX7 47 "BasketryOfficeModel" "price" "[D") (by decide +kernel)) (fun _ h9 => h9) rfl dX7_prices_156 ?_
              refine lv_iload hx hb dX7_prices_159 (lv_at hl 7 rfl) ?_
              refine lv_iload_n hx hb dX7_prices_161 rfl (lv_at hl 4 rfl) ?_
              refine lv_iload_n hx hb dX7_prices_162 rfl (lv_at hl 5 rfl) ?_
              refine lv_iload hx hb dX7_prices_163 (lv_at hl 9 rfl) ?_
              refine gc_S_i (As := [.int (nI (t)), .int (nI (i)), .int (nI (j))]) (rest := [.int (nI (1152 * sd)), .ref a_mpr]) (c_X7_cell l) ⟨hx, hb, hml, hown, hts⟩ (va_cwS 3 hts gX7_prices_X7_cell rfl rfl rfl (by decide +kernel) ⟨Nat.le_of_ble_eq_true rfl, Nat.le_of_ble_eq_true rfl⟩) hE hP hD hS hA rfl rfl hl.1 (Nat.le_of_ble_eq_true rfl) dX7_prices_165 ⟨Nat.le_of_ble_eq_true rfl, Nat.le_of_ble_eq_true rfl⟩ (fun r_165 u_165 H locs hP hD hS q_165 => ?_)
              subst q_165
              refine g_iadd hx hb dX7_prices_168 (nI_add _ _) ?_
              refine lv_iload hx hb dX7_prices_169 (lv_at hl 0 rfl) ?_
              refine g_if_eq (tgt := 179) hx hb (by omega) dX7_prices_171 (by decide) (fun c_171 => ?_) (fun c_171 => absurd c_171 (by omega))
              refine lv_dload hx hb dX7_prices_179 (lv_at hl 2 rfl) ?_
              refine g_dconst0 hx hb dX7_prices_181 ?_
              refine g_dcmpl_ne (tgt := 190) hx hb dX7_prices_182 dX7_prices_183 (by decide) (fun c_182 => ?_) (fun c_182 => absurd c_182 c_144)
              refine lv_dload hx hb dX7_prices_190 (lv_at hl 8 rfl) ?_
              refine g_dconst0 hx hb dX7_prices_192 ?_
              refine g_dcmpl_le (tgt := 205) hx hb dX7_prices_193 dX7_prices_194 (by decide) (fun c_193 => ?_) (fun c_193 => ?_)
              · refine lv_dload hx hb dX7_prices_205 (lv_at hl 2 rfl) ?_
                refine g_dv (v' := (rPrice (rK mcf (rCw sd mfx mce) mgm mlc mlg pr0) (sRate (rCw sd mfx mce) mgm) (sBase mlc mlg pr0) its) (48 * t + 4 * i + j)) (rP_4 (fun z => c_144 (pb9.de.mpr z)) (eM.symm.trans c_131) c_193) ?_
                refine g_dast hx hb hE hP hD hS _ f_mpr (by omega) (by decide) dX7_prices_207 (fun H locs hP hD hS => ?_)
                have hP := g_trP g_ss hP
                have hD := g_trD g_ss hD
                refine lv_iinc (v := nI (j + 1)) (lv' := [(7, .int (nI (j + 1))), (12, .int (nI (0))), (10, .double ((sRate (rCw sd mfx mce) mgm) (48 * t + 4 * i + j))), (8, .double ((sBase mlc mlg pr0) (48 * t + 4 * i + j))), (0, .ref a_mod), (1, .int (nI (t))), (2, .int (nI (i))), (3, .int (nI (sd))), (4, .int (nI (1152 * sd))), (5, .double its)]) hx hb dX7_prices_208 hl (k := 9) rfl (nI_add _ 1) (by decide) rfl (fun ls hl => ?_)
                refine lv_goto (tgt := 85) hx hb dX7_prices_211 (by decide) ?_
                have hP : gvP D vwCl (((ws.set p_mim (a_mim, eZ y 2304 (bF (rK mcf (rCw sd mfx mce) mgm mlc mlg pr0) (1152 * sd) (48 * t + 4 * i) mim (4)))).set p_mre (a_mre, eD y 576 (vf_upd mre ((12 * ((24 * sd) + t)) + i) (its)))).set p_mpr (a_mpr, eD y 2304 (dF (rPrice (rK mcf (rCw sd mfx mce) mgm mlc mlg pr0) (sRate (rCw sd mfx mce) mgm) (sBase mlc mlg pr0) its) (1152 * sd) (48 * t + 4 * i) mpr (j + 1)))) _ := g_trP (rfl) hP
                have hD : gvD A (((ws.set p_mim (a_mim, eZ y 2304 (bF (rK mcf (rCw sd mfx mce) mgm mlc mlg pr0) (1152 * sd) (48 * t + 4 * i) mim (4)))).set p_mre (a_mre, eD y 576 (vf_upd mre ((12 * ((24 * sd) + t)) + i) (its)))).set p_mpr (a_mpr, eD y 2304 (dF (rPrice (rK mcf (rCw sd mfx mce) mgm mlc mlg pr0) (sRate (rCw sd mfx mce) mgm) (sBase mlc mlg pr0) its) (1152 * sd) (48 * t + 4 * i) mpr (j + 1)))) := g_trD (rfl) hD
                exact ih_j H locs ls hP hD hS (lv_sub hl [4, 5, 6, 7, 8, 9, 0] rfl)
              · refine lv_dload hx hb dX7_prices_197 (lv_at hl 2 rfl) ?_
                refine lv_dload hx hb dX7_prices_199 (lv_at hl 8 rfl) ?_
                refine lv_dmul hx hb dX7_prices_201 nn3 ?_
                refine lv_goto (tgt := 207) hx hb dX7_prices_202 (by decide) ?_
                refine g_dv (v' := (rPrice (rK mcf (rCw sd mfx mce) mgm mlc mlg pr0) (sRate (rCw sd mfx mce) mgm) (sBase mlc mlg pr0) its) (48 * t + 4 * i + j)) (rP_3 (fun z => c_144 (pb9.de.mpr z)) (eM.symm.trans c_131) c_193) ?_
                refine g_dast hx hb hE hP hD hS _ f_mpr (by omega) (by decide) dX7_prices_207 (fun H locs hP hD hS => ?_)
                have hP := g_trP g_ss hP
                have hD := g_trD g_ss hD
                refine lv_iinc (v := nI (j + 1)) (lv' := [(7, .int (nI (j + 1))), (12, .int (nI (0))), (10, .double ((sRate (rCw sd mfx mce) mgm) (48 * t + 4 * i + j))), (8, .double ((sBase mlc mlg pr0) (48 * t + 4 * i + j))), (0, .ref a_mod), (1, .int (nI (t))), (2, .int (nI (i))), (3, .int (nI (sd))), (4, .int (nI (1152 * sd))), (5, .double its)]) hx hb dX7_prices_208 hl (k := 9) rfl (nI_add _ 1) (by decide) rfl (fun ls hl => ?_)
                refine lv_goto (tgt := 85) hx hb dX7_prices_211 (by decide) ?_
                have hP : gvP D vwCl (((ws.set p_mim (a_mim, eZ y 2304 (bF (rK mcf (rCw sd mfx mce) mgm mlc mlg pr0) (1152 * sd) (48 * t + 4 * i) mim (4)))).set p_mre (a_mre, eD y 576 (vf_upd mre ((12 * ((24 * sd) + t)) + i) (its)))).set p_mpr (a_mpr, eD y 2304 (dF (rPrice (rK mcf (rCw sd mfx mce) mgm mlc mlg pr0) (sRate (rCw sd mfx mce) mgm) (sBase mlc mlg pr0) its) (1152 * sd) (48 * t + 4 * i) mpr (j + 1)))) _ := g_trP (rfl) hP
                have hD : gvD A (((ws.set p_mim (a_mim, eZ y 2304 (bF (rK mcf (rCw sd mfx mce) mgm mlc mlg pr0) (1152 * sd) (48 * t + 4 * i) mim (4)))).set p_mre (a_mre, eD y 576 (vf_upd mre ((12 * ((24 * sd) + t)) + i) (its)))).set p_mpr (a_mpr, eD y 2304 (dF (rPrice (rK mcf (rCw sd mfx mce) mgm mlc mlg pr0) (sRate (rCw sd mfx mce) mgm) (sBase mlc mlg pr0) its) (1152 * sd) (48 * t + 4 * i) mpr (j + 1)))) := g_trD (rfl) hD
                exact ih_j H locs ls hP hD hS (lv_sub hl [4, 5, 6, 7, 8, 9, 0] rfl)
            · refine lv_iconst (v := nI 1) hx hb dX7_prices_148 (by decide) ?_
              refine lv_goto (tgt := 153) hx hb dX7_prices_149 (by decide) ?_
              refine lv_istore (lv' := [(12, .int (nI (1))), (10, .double ((sRate (rCw sd mfx mce) mgm) (48 * t + 4 * i + j))), (8, .double ((sBase mlc mlg pr0) (48 * t + 4 * i + j))), (0, .ref a_mod), (1, .int (nI (t))), (2, .int (nI (i))), (3, .int (nI (sd))), (4, .int (nI (1152 * sd))), (5, .double its), (7, .int (nI (j)))]) hx hb dX7_prices_153 hl (by decide) rfl (fun ls hl => ?_)
              refine lv_aload_n hx hb dX7_prices_155 rfl (lv_at hl 3 rfl) ?_
              refine va_get (D := D) (ci := 8) (v := .ref a_mpr) (C := RX7) (T := TX7) (N := 33) hx hb hts in_RX7 hown hE.1 (gv1 hP f_mod) 0 rfl rfl 17 (by decide) (hts (.fieldLink RX7 47 "BasketryOfficeModel" "price" "[D") (by decide +kernel)) (fun _ h9 => h9) rfl dX7_prices_156 ?_
              refine lv_iload hx hb dX7_prices_159 (lv_at hl 7 rfl) ?_
              refine lv_iload_n hx hb dX7_prices_161 rfl (lv_at hl 4 rfl) ?_
              refine lv_iload_n hx hb dX7_prices_162 rfl (lv_at hl 5 rfl) ?_
              refine lv_iload hx hb dX7_prices_163 (lv_at hl 9 rfl) ?_
              refine gc_S_i (As := [.int (nI (t)), .int (nI (i)), .int (nI (j))]) (rest := [.int (nI (1152 * sd)), .ref a_mpr]) (c_X7_cell l) ⟨hx, hb, hml, hown, hts⟩ (va_cwS 3 hts gX7_prices_X7_cell rfl rfl rfl (by decide +kernel) ⟨Nat.le_of_ble_eq_true rfl, Nat.le_of_ble_eq_true rfl⟩) hE hP hD hS hA rfl rfl hl.1 (Nat.le_of_ble_eq_true rfl) dX7_prices_165 ⟨Nat.le_of_ble_eq_true rfl, Nat.le_of_ble_eq_true rfl⟩ (fun r_165 u_165 H locs hP hD hS q_165 => ?_)
              subst q_165
              refine g_iadd hx hb dX7_prices_168 (nI_add _ _) ?_
              refine lv_iload hx hb dX7_prices_169 (lv_at hl 0 rfl) ?_
              refine g_if_eq (tgt := 179) hx hb (by omega) dX7_prices_171 (by decide) (fun c_171 => absurd c_171 (by omega)) (fun c_171 => ?_)
              refine lv_dload hx hb dX7_prices_174 (lv_at hl 1 rfl) ?_
              refine lv_goto (tgt := 207) hx hb dX7_prices_176 (by decide) ?_
              refine g_dv (v' := (rPrice (rK mcf (rCw sd mfx mce) mgm mlc mlg pr0) (sRate (rCw sd mfx mce) mgm) (sBase mlc mlg pr0) its) (48 * t + 4 * i + j)) (rP_2 (Or.inr c_144)) ?_
              refine g_dast hx hb hE hP hD hS _ f_mpr (by omega) (by decide) dX7_prices_207 (fun H locs hP hD hS => ?_)
              have hP := g_trP g_ss hP
              have hD := g_trD g_ss hD
              refine lv_iinc (v := nI (j + 1)) (lv' := [(7, .int (nI (j + 1))), (12, .int (nI (1))), (10, .double ((sRate (rCw sd mfx mce) mgm) (48 * t + 4 * i + j))), (8, .double ((sBase mlc mlg pr0) (48 * t + 4 * i + j))), (0, .ref a_mod), (1, .int (nI (t))), (2, .int (nI (i))), (3, .int (nI (sd))), (4, .int (nI (1152 * sd))), (5, .double its)]) hx hb dX7_prices_208 hl (k := 9) rfl (nI_add _ 1) (by decide) rfl (fun ls hl => ?_)
              refine lv_goto (tgt := 85) hx hb dX7_prices_211 (by decide) ?_
              have hP : gvP D vwCl (((ws.set p_mim (a_mim, eZ y 2304 (bF (rK mcf (rCw sd mfx mce) mgm mlc mlg pr0) (1152 * sd) (48 * t + 4 * i) mim (4)))).set p_mre (a_mre, eD y 576 (vf_upd mre ((12 * ((24 * sd) + t)) + i) (its)))).set p_mpr (a_mpr, eD y 2304 (dF (rPrice (rK mcf (rCw sd mfx mce) mgm mlc mlg pr0) (sRate (rCw sd mfx mce) mgm) (sBase mlc mlg pr0) its) (1152 * sd) (48 * t + 4 * i) mpr (j + 1)))) _ := g_trP (rfl) hP
              have hD : gvD A (((ws.set p_mim (a_mim, eZ y 2304 (bF (rK mcf (rCw sd mfx mce) mgm mlc mlg pr0) (1152 * sd) (48 * t + 4 * i) mim (4)))).set p_mre (a_mre, eD y 576 (vf_upd mre ((12 * ((24 * sd) + t)) + i) (its)))).set p_mpr (a_mpr, eD y 2304 (dF (rPrice (rK mcf (rCw sd mfx mce) mgm mlc mlg pr0) (sRate (rCw sd mfx mce) mgm) (sBase mlc mlg pr0) its) (1152 * sd) (48 * t + 4 * i) mpr (j + 1)))) := g_trD (rfl) hD
              exact ih_j H locs ls hP hD hS (lv_sub hl [4, 5, 6, 7, 8, 9, 0] rfl)
  · intro j hj_j ih_j H locs ls hP hD hS hl
    have hP : gvP D vwCl (ws.set p_mim (a_mim, eZ y 2304 (bF (rK mcf (rCw sd mfx mce) mgm mlc mlg pr0) (1152 * sd) (48 * t + 4 * i) mim (j)))) H := hP
    have hD : gvD A (ws.set p_mim (a_mim, eZ y 2304 (bF (rK mcf (rCw sd mfx mce) mgm mlc mlg pr0) (1152 * sd) (48 * t + 4 * i) mim (j)))) := hD
    have hl : lv_has ls 13 [(0, .ref a_mod), (1, .int (nI (t))), (2, .int (nI (i))), (3, .int (nI (sd))), (4, .int (nI (1152 * sd))), (5, .int (nI (j)))] := hl
    have eK : 48 * t + 4 * i + j = t * 48 + i * 4 + 0 + j := by omega
    have eb : mBase mlc mlg mpr t i j sd = (sBase mlc mlg pr0) (48 * t + 4 * i + j) := (mBase_s hi hj_j hlg).trans (sBase_eq hpr (by omega))
    have er : mRate (rCw sd mfx mce) mgm (48 * t + 4 * i + j) = (sRate (rCw sd mfx mce) mgm) (48 * t + 4 * i + j) := mRate_s hgm hcg _
    have nn1 := hnn.1 j hj_j
    rw [← eK] at nn1
    have nn2 : nnMin (mcf (48 * t + 4 * i + j)) (mRate (rCw sd mfx mce) mgm (48 * t + 4 * i + j)) (mBase mlc mlg mpr t i j sd) := by rw [eb, er]; exact nnMin_s (hpos j hj_j).1 (hpos j hj_j).2 nn1
    have e9 : mIn (mcf (48 * t + 4 * i + j)) (mRate (rCw sd mfx mce) mgm (48 * t + 4 * i + j)) (mBase mlc mlg mpr t i j sd) = (rK mcf (rCw sd mfx mce) mgm mlc mlg pr0) (48 * t + 4 * i + j) := by rw [eb, er]; exact mIn_s (hpos j hj_j).1 (hpos j hj_j).2
    refine lv_iload hx hb dX7_prices_10 (lv_at hl 5 rfl) ?_
    refine lv_iconst (v := nI 4) hx hb dX7_prices_12 (by decide) ?_
    refine g_icmp_ge (tgt := 46) hx hb (by omega) (by omega) dX7_prices_13 (by decide) (fun c_13 => absurd c_13 (by omega)) (fun c_13 => ?_)
    refine lv_aload_n hx hb dX7_prices_16 rfl (lv_at hl 0 rfl) ?_
    have f_mod := g_ne (x := (a_mim, eZ y 2304 (bF (rK mcf (rCw sd mfx mce) mgm mlc mlg pr0) (1152 * sd) (48 * t + 4 * i) mim (j)))) (g_kne f0_mim f0_mod (Nat.ne_of_beq_eq_false rfl)) (f0_mod)
    refine va_get (D := D) (ci := 8) (v := .ref a_mim) (C := RX7) (T := TX7) (N := 33) hx hb hts in_RX7 hown hE.1 (gv1 hP f_mod) 0 rfl rfl 18 (by decide) (hts (.fieldLink RX7 51 "BasketryOfficeModel" "isMatched" "[Z") (by decide +kernel)) (fun _ h9 => h9) rfl dX7_prices_17 ?_
    refine lv_iload hx hb dX7_prices_20 (lv_at hl 4 rfl) ?_
    refine lv_iload_n hx hb dX7_prices_22 rfl (lv_at hl 1 rfl) ?_
    refine lv_iload_n hx hb dX7_prices_23 rfl (lv_at hl 2 rfl) ?_
    refine lv_iload hx hb dX7_prices_24 (lv_at hl 5 rfl) ?_
    refine gc_S_i (As := [.int (nI (t)), .int (nI (i)), .int (nI (j))]) (rest := [.int (nI (1152 * sd)), .ref a_mim]) (c_X7_cell l) ⟨hx, hb, hml, hown, hts⟩ (va_cwS 3 hts gX7_prices_X7_cell rfl rfl rfl (by decide +kernel) ⟨Nat.le_of_ble_eq_true rfl, Nat.le_of_ble_eq_true rfl⟩) hE hP hD hS hA rfl rfl hl.1 (Nat.le_of_ble_eq_true rfl) dX7_prices_26 ⟨Nat.le_of_ble_eq_true rfl, Nat.le_of_ble_eq_true rfl⟩ (fun r_26 u_26 H locs hP hD hS q_26 => ?_)
    subst q_26
    refine g_iadd hx hb dX7_prices_29 (nI_add _ _) ?_
    refine lv_aload_n hx hb dX7_prices_30 rfl (lv_at hl 0 rfl) ?_
    refine lv_iload_n hx hb dX7_prices_31 rfl (lv_at hl 1 rfl) ?_
    refine lv_iload_n hx hb dX7_prices_32 rfl (lv_at hl 2 rfl) ?_
    refine lv_iload hx hb dX7_prices_33 (lv_at hl 5 rfl) ?_
    refine lv_iload_n hx hb dX7_prices_35 rfl (lv_at hl 3 rfl) ?_
    have f_mce := g_ne (x := (a_mim, eZ y 2304 (bF (rK mcf (rCw sd mfx mce) mgm mlc mlg pr0) (1152 * sd) (48 * t + 4 * i) mim (j)))) hdis.2.1 (f0_mce)
    have f_mgm := g_ne (x := (a_mim, eZ y 2304 (bF (rK mcf (rCw sd mfx mce) mgm mlc mlg pr0) (1152 * sd) (48 * t + 4 * i) mim (j)))) hdis.2.2.1 (f0_mgm)
    have f_mfx := g_ne (x := (a_mim, eZ y 2304 (bF (rK mcf (rCw sd mfx mce) mgm mlc mlg pr0) (1152 * sd) (48 * t + 4 * i) mim (j)))) hdis.2.2.2.1 (f0_mfx)
    have f_mcf := g_ne (x := (a_mim, eZ y 2304 (bF (rK mcf (rCw sd mfx mce) mgm mlc mlg pr0) (1152 * sd) (48 * t + 4 * i) mim (j)))) hdis.2.2.2.2.1 (f0_mcf)
    have f_mlc := g_ne (x := (a_mim, eZ y 2304 (bF (rK mcf (rCw sd mfx mce) mgm mlc mlg pr0) (1152 * sd) (48 * t + 4 * i) mim (j)))) hdis.2.2.2.2.2.1 (f0_mlc)
    have f_mlg := g_ne (x := (a_mim, eZ y 2304 (bF (rK mcf (rCw sd mfx mce) mgm mlc mlg pr0) (1152 * sd) (48 * t + 4 * i) mim (j)))) hdis.2.2.2.2.2.2.1 (f0_mlg)
    have f_mpr := g_ne (x := (a_mim, eZ y 2304 (bF (rK mcf (rCw sd mfx mce) mgm mlc mlg pr0) (1152 * sd) (48 * t + 4 * i) mim (j)))) (g_kne f0_mim f0_mpr (Nat.ne_of_beq_eq_false rfl)) (f0_mpr)
    refine gc_V_i (As := [.int (nI (t)), .int (nI (i)), .int (nI (j)), .int (nI (sd))]) (rest := [.int (nI ((1152 * sd) + (48 * (t) + 4 * (i) + (j)))), .ref a_mim]) (c_X7_matches l f_mod f_mce f_mgm f_mfx f_mcf f_mlc f_mlg f_mpr b_mce b_mgm b_mfx b_mlc b_mlg ht hi hj_j hsd hgm hlg nn2) ⟨hx, hb, hml, hown, hts⟩ (cwV 4 hts gX7_prices_X7_matches rfl rfl rfl (by decide +kernel) ⟨Nat.le_of_ble_eq_true rfl, Nat.le_of_ble_eq_true rfl⟩) hE hP hD hS hA _ f_mod rfl rfl rfl rfl hl.1 (Nat.le_of_ble_eq_true rfl) dX7_prices_36 ⟨Nat.le_of_ble_eq_true rfl, Nat.le_of_ble_eq_true rfl⟩ (fun r_36 u_36 H locs hP hD hS q_36 => ?_)
    have q9 := q_36.trans (congrArg gb e9)
    subst q9
    have f_mim := g_eq (x := (a_mim, eZ y 2304 (bF (rK mcf (rCw sd mfx mce) mgm mlc mlg pr0) (1152 * sd) (48 * t + 4 * i) mim (j)))) (f0_mim)
    refine g_zast hx hb hE hP hD hS _ f_mim (by omega) (by decide) dX7_prices_39 (fun H locs hP hD hS => ?_)
    have hP := g_trP g_ss hP
    have hD := g_trD g_ss hD
    refine lv_iinc (v := nI (j + 1)) (lv' := [(5, .int (nI (j + 1))), (0, .ref a_mod), (1, .int (nI (t))), (2, .int (nI (i))), (3, .int (nI (sd))), (4, .int (nI (1152 * sd)))]) hx hb dX7_prices_40 hl (k := 5) rfl (nI_add _ 1) (by decide) rfl (fun ls hl => ?_)
    refine lv_goto (tgt := 10) hx hb dX7_prices_43 (by decide) ?_
    have hP : gvP D vwCl (ws.set p_mim (a_mim, eZ y 2304 (bF (rK mcf (rCw sd mfx mce) mgm mlc mlg pr0) (1152 * sd) (48 * t + 4 * i) mim (j + 1)))) _ := g_trP (rfl) hP
    have hD : gvD A (ws.set p_mim (a_mim, eZ y 2304 (bF (rK mcf (rCw sd mfx mce) mgm mlc mlg pr0) (1152 * sd) (48 * t + 4 * i) mim (j + 1)))) := g_trD (rfl) hD
    exact ih_j H locs ls hP hD hS (lv_sub hl [1, 2, 3, 4, 5, 0] rfl)
