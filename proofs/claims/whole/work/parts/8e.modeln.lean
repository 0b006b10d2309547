theorem dlt_ndge {x a b : UInt64} (h : Dlt x a) (hb : FP.Core.dIsNaN b = false) (k : FP.Core.dkey a < FP.Core.dkey b) : ¬ Dge x b := by
  intro z
  have hx := (FP.Core.notNaN_iff x).mp (FP.Core.dcmp_notNaN h).1
  have ha := (FP.Core.notNaN_iff a).mp (FP.Core.dcmp_notNaN h).2
  have hb := (FP.Core.notNaN_iff b).mp hb
  have h1 := (FP.Core.dcmp_lt_key hx ha).mp h
  rcases z with z | z
  · have h2 := (FP.Core.dcmp_gt_key hx hb).mp z
    omega
  · have h2 := (FP.Core.dcmp_eq_key hx hb).mp z
    omega
theorem sNum_1 {x : UInt64} (h : Dlt (FP.dadd (FP.dmul x 4621819117588971520) 4602678819172646912) FP.dconst1) : nI 1 = sNum x := by
  unfold sNum
  rw [if_neg (dlt_ndge h (by decide +kernel) (by decide +kernel)), if_pos h]
theorem sNum_2 {x : UInt64} (h : Dge (FP.dadd (FP.dmul x 4621819117588971520) 4602678819172646912) 4746794007244308480) : nI 2147483647 = sNum x := by
  unfold sNum
  rw [if_pos h]
theorem sNum_3 {x : UInt64} (h : ¬ Dge (FP.dadd (FP.dmul x 4621819117588971520) 4602678819172646912) 4746794007244308480) (k : ¬ Dlt (FP.dadd (FP.dmul x 4621819117588971520) 4602678819172646912) FP.dconst1) : FP.d2i (FP.dadd (FP.dmul x 4621819117588971520) 4602678819172646912) = sNum x := by
  unfold sNum
  rw [if_neg h, if_neg k]
theorem in_c_X7_reckons_RX7 : ∀ w ∈ wsX70, w ∈ wsX7_reckons := by decide +kernel
set_option maxHeartbeats 4000000 in
set_option maxRecDepth 100000 in
theorem c_X7_reckons (l : Launch) {D : va_G} {y : Nat → Nat} {ws : va_W} {x_mod_0 : Value} {x_mod_4 : Value} {x_mod_5 : Value} {x_mod_6 : Value} {x_mod_7 : Value} {x_mod_14 : Value} {x_mod_15 : Value} {x_mod_23 : Value} {x_mod_24 : Value} {x_mod_25 : Value} {x_mod_26 : Value} {x_mod_27 : Value} {x_mod_28 : Value} {x_mod_29 : Value} {x_mod_30 : Value} {x_mod_31 : Value} {x_mod_32 : Value} {p_mod p_mpr p_mim p_mre p_mce p_mgm p_mfx p_mcf p_mlc p_mlg p_mme p_mgr p_mog p_mix p_mnu p_msp a_mod a_mpr a_mim a_mre a_mce a_mgm a_mfx a_mcf a_mlc a_mlg a_mme a_mgr a_mog a_mix a_mnu a_msp : Nat} {mpr : Nat → UInt64} {mim : Nat → Bool} {mre : Nat → UInt64} {mce : Nat → Nat} {mgm : Nat → Nat} {mfx : Nat → Nat} {mcf : Nat → Bool} {mlc : Nat → Nat} {mlg : Nat → Nat} {mme : Nat → Nat} {mgr : Nat → Nat} {mog : Nat → UInt64} {mix : Nat → UInt64} {mnu : Nat → Nat} {msp : Nat → Nat} {t sd n : Nat} {pr0 mre1 mog1 mix1 rel1 grp1 shr : Nat → UInt64} (f0_mod : ws[p_mod]? = some (a_mod, .inr (8, x_mod_0 :: .int (nI (n)) :: .ref a_mgr :: .ref a_mme :: x_mod_4 :: x_mod_5 :: x_mod_6 :: x_mod_7 :: .ref a_mce :: .ref a_mgm :: .ref a_mfx :: .ref a_mcf :: .ref a_mlc :: .ref a_mlg :: x_mod_14 :: x_mod_15 :: .ref a_msp :: .ref a_mpr :: .ref a_mim :: .ref a_mre :: .ref a_mog :: .ref a_mix :: .ref a_mnu :: x_mod_23 :: x_mod_24 :: x_mod_25 :: x_mod_26 :: x_mod_27 :: x_mod_28 :: x_mod_29 :: x_mod_30 :: x_mod_31 :: x_mod_32 :: []))) (f0_mpr : ws[p_mpr]? = some (a_mpr, eD y 2304 mpr)) (f0_mim : ws[p_mim]? = some (a_mim, eZ y 2304 mim)) (f0_mre : ws[p_mre]? = some (a_mre, eD y 576 mre)) (f0_mce : ws[p_mce]? = some (a_mce, eN y 1152 mce)) (f0_mgm : ws[p_mgm]? = some (a_mgm, eN y 1152 mgm)) (f0_mfx : ws[p_mfx]? = some (a_mfx, eN y 1152 mfx)) (f0_mcf : ws[p_mcf]? = some (a_mcf, eZ y 1152 mcf)) (f0_mlc : ws[p_mlc]? = some (a_mlc, eN y 1152 mlc)) (f0_mlg : ws[p_mlg]? = some (a_mlg, eN y 1152 mlg)) (f0_mme : ws[p_mme]? = some (a_mme, eN y 12 mme)) (f0_mgr : ws[p_mgr]? = some (a_mgr, eN y 12 mgr)) (f0_mog : ws[p_mog]? = some (a_mog, eD y 192 mog)) (f0_mix : ws[p_mix]? = some (a_mix, eD y 240 mix)) (f0_mnu : ws[p_mnu]? = some (a_mnu, eN y 48 mnu)) (f0_msp : ws[p_msp]? = some (a_msp, eN y 288 msp)) (b_mce : ∀ k, mce k ≤ 100000) (b_mgm : ∀ k, mgm k ≤ 10000) (b_mfx : ∀ k, mfx k ≤ 100000) (b_mlc : ∀ k, mlc k ≤ 100000) (b_mlg : ∀ k, mlg k ≤ 10000) (b_mme : ∀ k, mme k ≤ 2) (b_mgr : ∀ k, mgr k ≤ 3) (b_mnu : ∀ k, mnu k ≤ 2147483647) (b_msp : ∀ k, msp k ≤ 1000000000) (ht : t < 24) (hsd : sd ≤ 1) (hn : n ≤ 12) (hgm : ∀ k, mgm k = 0 → mce k = 0 ∧ mfx k = 0) (hlg : ∀ k, mlg k = 0 → mlc k = 0) (hcg : ∀ k, mce k = 0 → mgm k = 0) (hpr : prEq t (fun k => mpr (1152 * sd + k)) pr0) (hpos : ∀ i, i < n → ∀ j, j < 4 → P0 ((sRate (rCw sd mfx mce) mgm) (48 * t + 4 * i + j)) ∧ P0 ((sBase mlc mlg pr0) (48 * t + 4 * i + j))) (hn1 : ∀ i, i < n → nnItem mcf (rCw sd mfx mce) mgm mlc mlg pr0 (mme i) t i) (hmre1 : mre1 = uF (sIts mcf (rCw sd mfx mce) mgm mlc mlg pr0 mme t) (12 * (24 * sd + t)) mre n) (hrel1 : ∀ k, mre1 (288 * sd + k) = rel1 k) (hn2 : ∀ g, g < 4 → nnGrp mgr rel1 n g t) (hmog1 : mog1 = uF (fun g => sGrp mgr rel1 n g t) (4 * (24 * sd + t)) mog 4) (hgrp1 : ∀ k, mog1 (96 * sd + k) = grp1 k) (hsh : ∀ g, g < 4 → nnShM (fun k => msp (12 * t + k)) g) (hshr : ∀ k, k < 5 → ∀ g, g < 4 → mShr (fun k => msp (12 * t + k)) k g = shr ((t * 5 + k) * 4 + g)) (hn3 : ∀ k, k < 5 → nnStep shr grp1 k t) (hn4 : ∀ k, k < 5 → t ≠ 0 → vf_n64 (FP.dmul (mix (120 * sd + ((t - 1) * 5 + k))) (sStep shr grp1 k t 4))) (hmix1 : mix1 = uF (fun k => ixV shr grp1 (fun q => mix (120 * sd + q)) t k) (5 * (24 * sd + t)) mix (5)) (hnum : nnNum (mix1 (120 * sd + (t * 5 + 0)))) (hdisr : p_mpr ≠ p_mre ∧ p_mpr ≠ p_mog ∧ p_mpr ≠ p_mix ∧ p_mre ≠ p_mog ∧ p_mre ≠ p_mix ∧ p_mog ≠ p_mix ∧ p_mim ≠ p_mce ∧ p_mim ≠ p_mgm ∧ p_mim ≠ p_mfx ∧ p_mim ≠ p_mcf ∧ p_mim ≠ p_mlc ∧ p_mim ≠ p_mlg ∧ p_mim ≠ p_mme ∧ p_mim ≠ p_mgr ∧ p_mim ≠ p_mnu ∧ p_mim ≠ p_msp ∧ p_mnu ≠ p_mce ∧ p_mnu ≠ p_mgm ∧ p_mnu ≠ p_mfx ∧ p_mnu ≠ p_mcf ∧ p_mnu ≠ p_mlc ∧ p_mnu ≠ p_mlg ∧ p_mnu ≠ p_mme ∧ p_mnu ≠ p_mgr ∧ p_mnu ≠ p_msp) : gMv l yX7_reckons wsX7_reckons ({ frames := 4, cells := 0, slots := 0, locals := 115 }) D y [.ref a_mod, .int (nI (t)), .int (nI (sd))] ws (fun (_ : Unit) => True) (fun (_ : Unit) => ((((((ws.set p_mim (a_mim, eZ y 2304 (bO (rK mcf (rCw sd mfx mce) mgm mlc mlg pr0) (1152 * sd) t mim (n)))).set p_mre (a_mre, eD y 576 mre1)).set p_mpr (a_mpr, eD y 2304 (prO (sVal mcf (rCw sd mfx mce) mgm mlc mlg pr0 mme t) (1152 * sd) t mpr (n)))).set p_mog (a_mog, eD y 192 mog1)).set p_mix (a_mix, eD y 240 mix1)).set p_mnu (a_mnu, eN y 48 (vf_upd mnu (24 * sd + t) (sNumN (mix1 (120 * sd + (t * 5 + 0)))))))) := by
  refine g_met_v (cc := cX7_reckons) (maxL := 9) (by decide) rfl (Nat.le_of_ble_eq_true rfl) ?_
  intro p e s m below meth c A hx hb hml hr hts hown hnm hlocks hE hP hD hS hA ls hl
  have hown : s.vm.findClass RX7 = some m.cls := hown
  have hl : lv_has ls 9 [(0, .ref a_mod), (1, .int (nI (t))), (2, .int (nI (sd)))] := hl
  have in_RX7 := in_c_X7_reckons_RX7
  obtain ⟨d_0, d_1, d_2, d_3, d_4, d_5, d_6, d_7, d_8, d_9, d_10, d_11, d_12, d_13, d_14, d_15, d_16, d_17, d_18, d_19, d_20, d_21, d_22, d_23, d_24⟩ := id hdisr
  refine lv_bipush (v := nI 24) hx hb dX7_reckons_0 (by decide) ?_
  refine lv_iload_n hx hb dX7_reckons_2 rfl (lv_at hl 2 rfl) ?_
  refine g_imul hx hb dX7_reckons_3 (pk_mul _ _) ?_
  refine lv_iload_n hx hb dX7_reckons_4 rfl (lv_at hl 1 rfl) ?_
  refine g_iadd hx hb dX7_reckons_5 (nI_add _ _) ?_
  refine lv_istore_n (lv' := [(3, .int (nI ((24 * sd) + t))), (0, .ref a_mod), (1, .int (nI (t))), (2, .int (nI (sd)))]) hx hb dX7_reckons_6 rfl hl (by decide) rfl (fun ls hl => ?_)
  refine lv_iconst (v := nI 0) hx hb dX7_reckons_7 (by decide) ?_
  refine lv_istore (lv' := [(4, .int (nI (0))), (3, .int (nI ((24 * sd) + t))), (0, .ref a_mod), (1, .int (nI (t))), (2, .int (nI (sd)))]) hx hb dX7_reckons_8 hl (by decide) rfl (fun ls hl => ?_)
  have hP := g_trP (g_same f0_mim) hP
  have hD := g_trD (g_same f0_mim) hD
  have f_mre := g_ne (x := (a_mim, eZ y 2304 mim)) (g_kne f0_mim f0_mre (Nat.ne_of_beq_eq_false rfl)) (f0_mre)
  have hP := g_trP (g_same f_mre) hP
  have hD := g_trD (g_same f_mre) hD
  have f_mpr := g_ne (x := (a_mre, eD y 576 mre)) (Ne.symm hdisr.1) (g_ne (x := (a_mim, eZ y 2304 mim)) (g_kne f0_mim f0_mpr (Nat.ne_of_beq_eq_false rfl)) (f0_mpr))
  have hP := g_trP (g_same f_mpr) hP
  have hD := g_trD (g_same f_mpr) hD
  have hP : gvP D vwCl (((ws.set p_mim (a_mim, eZ y 2304 (bO (rK mcf (rCw sd mfx mce) mgm mlc mlg pr0) (1152 * sd) t mim (0)))).set p_mre (a_mre, eD y 576 (uF (sIts mcf (rCw sd mfx mce) mgm mlc mlg pr0 mme t) (12 * (24 * sd + t)) mre (0)))).set p_mpr (a_mpr, eD y 2304 (prO (sVal mcf (rCw sd mfx mce) mgm mlc mlg pr0 mme t) (1152 * sd) t mpr (0)))) _ := g_trP (rfl) hP
  have hD : gvD A (((ws.set p_mim (a_mim, eZ y 2304 (bO (rK mcf (rCw sd mfx mce) mgm mlc mlg pr0) (1152 * sd) t mim (0)))).set p_mre (a_mre, eD y 576 (uF (sIts mcf (rCw sd mfx mce) mgm mlc mlg pr0 mme t) (12 * (24 * sd + t)) mre (0)))).set p_mpr (a_mpr, eD y 2304 (prO (sVal mcf (rCw sd mfx mce) mgm mlc mlg pr0 mme t) (1152 * sd) t mpr (0)))) := g_trD (rfl) hD
  refine g_for (fun i => (((ws.set p_mim (a_mim, eZ y 2304 (bO (rK mcf (rCw sd mfx mce) mgm mlc mlg pr0) (1152 * sd) t mim (i)))).set p_mre (a_mre, eD y 576 (uF (sIts mcf (rCw sd mfx mce) mgm mlc mlg pr0 mme t) (12 * (24 * sd + t)) mre (i)))).set p_mpr (a_mpr, eD y 2304 (prO (sVal mcf (rCw sd mfx mce) mgm mlc mlg pr0 mme t) (1152 * sd) t mpr (i))))) (fun i => [(0, .ref a_mod), (1, .int (nI (t))), (2, .int (nI (sd))), (3, .int (nI (24 * sd + t))), (4, .int (nI (i)))]) (n) (0) (by omega) ?_ ?_ hP hD hS (lv_sub hl [2, 3, 4, 1, 0] rfl)
  · intro H locs ls hP hD hS hl
    have hP : gvP D vwCl (((ws.set p_mim (a_mim, eZ y 2304 (bO (rK mcf (rCw sd mfx mce) mgm mlc mlg pr0) (1152 * sd) t mim (n)))).set p_mre (a_mre, eD y 576 (uF (sIts mcf (rCw sd mfx mce) mgm mlc mlg pr0 mme t) (12 * (24 * sd + t)) mre (n)))).set p_mpr (a_mpr, eD y 2304 (prO (sVal mcf (rCw sd mfx mce) mgm mlc mlg pr0 mme t) (1152 * sd) t mpr (n)))) H := hP
    have hD : gvD A (((ws.set p_mim (a_mim, eZ y 2304 (bO (rK mcf (rCw sd mfx mce) mgm mlc mlg pr0) (1152 * sd) t mim (n)))).set p_mre (a_mre, eD y 576 (uF (sIts mcf (rCw sd mfx mce) mgm mlc mlg pr0 mme t) (12 * (24 * sd + t)) mre (n)))).set p_mpr (a_mpr, eD y 2304 (prO (sVal mcf (rCw sd mfx mce) mgm mlc mlg pr0 mme t) (1152 * sd) t mpr (n)))) := hD
    have hl : lv_has ls 9 [(0, .ref a_mod), (1, .int (nI (t))), (2, .int (nI (sd))), (3, .int (nI (24 * sd + t))), (4, .int (nI (n)))] := hl
    refine lv_iload hx hb dX7_reckons_10 (lv_at hl 4 rfl) ?_
    refine lv_aload_n hx hb dX7_reckons_12 rfl (lv_at hl 0 rfl) ?_
    have f_mod := g_ne (x := (a_mpr, eD y 2304 (prO (sVal mcf (rCw sd mfx mce) mgm mlc mlg pr0 mme t) (1152 * sd) t mpr (n)))) (g_kne f0_mpr f0_mod (Nat.ne_of_beq_eq_false rfl)) (g_ne (x := (a_mre, eD y 576 (uF (sIts mcf (rCw sd mfx mce) mgm mlc mlg pr0 mme t) (12 * (24 * sd + t)) mre (n)))) (g_kne f0_mre f0_mod (Nat.ne_of_beq_eq_false rfl)) (g_ne (x := (a_mim, eZ y 2304 (bO (rK mcf (rCw sd mfx mce) mgm mlc mlg pr0) (1152 * sd) t mim (n)))) (g_kne f0_mim f0_mod (Nat.ne_of_beq_eq_false rfl)) (f0_mod)))
    refine va_get (D := D) (ci := 8) (v := .int (nI (n))) (C := RX7) (T := TX7) (N := 33) hx hb hts in_RX7 hown hE.1 (gv1 hP f_mod) 0 rfl rfl 1 (by decide) (hts (.fieldLink RX7 98 "BasketryOfficeModel" "items" "I") (by decide +kernel)) (fun _ h9 => h9) rfl dX7_reckons_13 ?_
    refine g_icmp_ge (tgt := 33) hx hb (by omega) (by omega) dX7_reckons_16 (by decide) (fun c_16 => ?_) (fun c_16 => absurd c_16 (by omega))
    have hP : gvP D vwCl (((ws.set p_mim (a_mim, eZ y 2304 (bO (rK mcf (rCw sd mfx mce) mgm mlc mlg pr0) (1152 * sd) t mim (n)))).set p_mre (a_mre, eD y 576 mre1)).set p_mpr (a_mpr, eD y 2304 (prO (sVal mcf (rCw sd mfx mce) mgm mlc mlg pr0 mme t) (1152 * sd) t mpr (n)))) H := by rw [hmre1]; exact hP
    have hD : gvD A (((ws.set p_mim (a_mim, eZ y 2304 (bO (rK mcf (rCw sd mfx mce) mgm mlc mlg pr0) (1152 * sd) t mim (n)))).set p_mre (a_mre, eD y 576 mre1)).set p_mpr (a_mpr, eD y 2304 (prO (sVal mcf (rCw sd mfx mce) mgm mlc mlg pr0 mme t) (1152 * sd) t mpr (n)))) := by rw [hmre1]; exact hD
    refine lv_iconst (v := nI 0) hx hb dX7_reckons_33 (by decide) ?_
    refine lv_istore (lv' := [(4, .int (nI (0))), (0, .ref a_mod), (1, .int (nI (t))), (2, .int (nI (sd))), (3, .int (nI (24 * sd + t)))]) hx hb dX7_reckons_34 hl (by decide) rfl (fun ls hl => ?_)
    have f_mog := g_ne (x := (a_mpr, eD y 2304 (prO (sVal mcf (rCw sd mfx mce) mgm mlc mlg pr0 mme t) (1152 * sd) t mpr (n)))) hdisr.2.1 (g_ne (x := (a_mre, eD y 576 mre1)) hdisr.2.2.2.1 (g_ne (x := (a_mim, eZ y 2304 (bO (rK mcf (rCw sd mfx mce) mgm mlc mlg pr0) (1152 * sd) t mim (n)))) (g_kne f0_mim f0_mog (Nat.ne_of_beq_eq_false rfl)) (f0_mog)))
    have hP := g_trP (g_same f_mog) hP
    have hD := g_trD (g_same f_mog) hD
    have hP : gvP D vwCl ((((ws.set p_mim (a_mim, eZ y 2304 (bO (rK mcf (rCw sd mfx mce) mgm mlc mlg pr0) (1152 * sd) t mim (n)))).set p_mre (a_mre, eD y 576 mre1)).set p_mpr (a_mpr, eD y 2304 (prO (sVal mcf (rCw sd mfx mce) mgm mlc mlg pr0 mme t) (1152 * sd) t mpr (n)))).set p_mog (a_mog, eD y 192 (uF (fun g => sGrp mgr rel1 n g t) (4 * (24 * sd + t)) mog (0)))) _ := g_trP (rfl) hP
    have hD : gvD A ((((ws.set p_mim (a_mim, eZ y 2304 (bO (rK mcf (rCw sd mfx mce) mgm mlc mlg pr0) (1152 * sd) t mim (n)))).set p_mre (a_mre, eD y 576 mre1)).set p_mpr (a_mpr, eD y 2304 (prO (sVal mcf (rCw sd mfx mce) mgm mlc mlg pr0 mme t) (1152 * sd) t mpr (n)))).set p_mog (a_mog, eD y 192 (uF (fun g => sGrp mgr rel1 n g t) (4 * (24 * sd + t)) mog (0)))) := g_trD (rfl) hD
    refine g_for (fun g => ((((ws.set p_mim (a_mim, eZ y 2304 (bO (rK mcf (rCw sd mfx mce) mgm mlc mlg pr0) (1152 * sd) t mim (n)))).set p_mre (a_mre, eD y 576 mre1)).set p_mpr (a_mpr, eD y 2304 (prO (sVal mcf (rCw sd mfx mce) mgm mlc mlg pr0 mme t) (1152 * sd) t mpr (n)))).set p_mog (a_mog, eD y 192 (uF (fun g => sGrp mgr rel1 n g t) (4 * (24 * sd + t)) mog (g))))) (fun g => [(0, .ref a_mod), (1, .int (nI (t))), (2, .int (nI (sd))), (3, .int (nI (24 * sd + t))), (4, .int (nI (g)))]) (4) (0) (by omega) ?_ ?_ hP hD hS (lv_sub hl [1, 2, 3, 4, 0] rfl)
    · intro H locs ls hP hD hS hl
      have hP : gvP D vwCl ((((ws.set p_mim (a_mim, eZ y 2304 (bO (rK mcf (rCw sd mfx mce) mgm mlc mlg pr0) (1152 * sd) t mim (n)))).set p_mre (a_mre, eD y 576 mre1)).set p_mpr (a_mpr, eD y 2304 (prO (sVal mcf (rCw sd mfx mce) mgm mlc mlg pr0 mme t) (1152 * sd) t mpr (n)))).set p_mog (a_mog, eD y 192 (uF (fun g => sGrp mgr rel1 n g t) (4 * (24 * sd + t)) mog (4)))) H := hP
      have hD : gvD A ((((ws.set p_mim (a_mim, eZ y 2304 (bO (rK mcf (rCw sd mfx mce) mgm mlc mlg pr0) (1152 * sd) t mim (n)))).set p_mre (a_mre, eD y 576 mre1)).set p_mpr (a_mpr, eD y 2304 (prO (sVal mcf (rCw sd mfx mce) mgm mlc mlg pr0 mme t) (1152 * sd) t mpr (n)))).set p_mog (a_mog, eD y 192 (uF (fun g => sGrp mgr rel1 n g t) (4 * (24 * sd + t)) mog (4)))) := hD
      have hl : lv_has ls 9 [(0, .ref a_mod), (1, .int (nI (t))), (2, .int (nI (sd))), (3, .int (nI (24 * sd + t))), (4, .int (nI (4)))] := hl
      refine lv_iload hx hb dX7_reckons_36 (lv_at hl 4 rfl) ?_
      refine lv_iconst (v := nI 4) hx hb dX7_reckons_38 (by decide) ?_
      refine g_icmp_ge (tgt := 147) hx hb (by omega) (by omega) dX7_reckons_39 (by decide) (fun c_39 => ?_) (fun c_39 => absurd c_39 (by omega))
      have hP : gvP D vwCl ((((ws.set p_mim (a_mim, eZ y 2304 (bO (rK mcf (rCw sd mfx mce) mgm mlc mlg pr0) (1152 * sd) t mim (n)))).set p_mre (a_mre, eD y 576 mre1)).set p_mpr (a_mpr, eD y 2304 (prO (sVal mcf (rCw sd mfx mce) mgm mlc mlg pr0 mme t) (1152 * sd) t mpr (n)))).set p_mog (a_mog, eD y 192 mog1)) H := by rw [hmog1]; exact hP
      have hD : gvD A ((((ws.set p_mim (a_mim, eZ y 2304 (bO (rK mcf (rCw sd mfx mce) mgm mlc mlg pr0) (1152 * sd) t mim (n)))).set p_mre (a_mre, eD y 576 mre1)).set p_mpr (a_mpr, eD y 2304 (prO (sVal mcf (rCw sd mfx mce) mgm mlc mlg pr0 mme t) (1152 * sd) t mpr (n)))).set p_mog (a_mog, eD y 192 mog1)) := by rw [hmog1]; exact hD
      refine lv_iconst (v := nI 0) hx hb dX7_reckons_147 (by decide) ?_
      refine lv_istore (lv' := [(4, .int (nI (0))), (0, .ref a_mod), (1, .int (nI (t))), (2, .int (nI (sd))), (3, .int (nI (24 * sd + t)))]) hx hb dX7_reckons_148 hl (by decide) rfl (fun ls hl => ?_)
      have f_mix := g_ne (x := (a_mog, eD y 192 mog1)) hdisr.2.2.2.2.2.1 (g_ne (x := (a_mpr, eD y 2304 (prO (sVal mcf (rCw sd mfx mce) mgm mlc mlg pr0 mme t) (1152 * sd) t mpr (n)))) hdisr.2.2.1 (g_ne (x := (a_mre, eD y 576 mre1)) hdisr.2.2.2.2.1 (g_ne (x := (a_mim, eZ y 2304 (bO (rK mcf (rCw sd mfx mce) mgm mlc mlg pr0) (1152 * sd) t mim (n)))) (g_kne f0_mim f0_mix (Nat.ne_of_beq_eq_false rfl)) (f0_mix))))
      have hP := g_trP (g_same f_mix) hP
      have hD := g_trD (g_same f_mix) hD
      have hP : gvP D vwCl (((((ws.set p_mim (a_mim, eZ y 2304 (bO (rK mcf (rCw sd mfx mce) mgm mlc mlg pr0) (1152 * sd) t mim (n)))).set p_mre (a_mre, eD y 576 mre1)).set p_mpr (a_mpr, eD y 2304 (prO (sVal mcf (rCw sd mfx mce) mgm mlc mlg pr0 mme t) (1152 * sd) t mpr (n)))).set p_mog (a_mog, eD y 192 mog1)).set p_mix (a_mix, eD y 240 (uF (fun k => ixV shr grp1 (fun q => mix (120 * sd + q)) t k) (5 * (24 * sd + t)) mix (0)))) _ := g_trP (rfl) hP
      have hD : gvD A (((((ws.set p_mim (a_mim, eZ y 2304 (bO (rK mcf (rCw sd mfx mce) mgm mlc mlg pr0) (1152 * sd) t mim (n)))).set p_mre (a_mre, eD y 576 mre1)).set p_mpr (a_mpr, eD y 2304 (prO (sVal mcf (rCw sd mfx mce) mgm mlc mlg pr0 mme t) (1152 * sd) t mpr (n)))).set p_mog (a_mog, eD y 192 mog1)).set p_mix (a_mix, eD y 240 (uF (fun k => ixV shr grp1 (fun q => mix (120 * sd + q)) t k) (5 * (24 * sd + t)) mix (0)))) := g_trD (rfl) hD
      refine g_for (fun kd => (((((ws.set p_mim (a_mim, eZ y 2304 (bO (rK mcf (rCw sd mfx mce) mgm mlc mlg pr0) (1152 * sd) t mim (n)))).set p_mre (a_mre, eD y 576 mre1)).set p_mpr (a_mpr, eD y 2304 (prO (sVal mcf (rCw sd mfx mce) mgm mlc mlg pr0 mme t) (1152 * sd) t mpr (n)))).set p_mog (a_mog, eD y 192 mog1)).set p_mix (a_mix, eD y 240 (uF (fun k => ixV shr grp1 (fun q => mix (120 * sd + q)) t k) (5 * (24 * sd + t)) mix (kd))))) (fun kd => [(0, .ref a_mod), (1, .int (nI (t))), (2, .int (nI (sd))), (3, .int (nI (24 * sd + t))), (4, .int (nI (kd)))]) (5) (0) (by omega) ?_ ?_ hP hD hS (lv_sub hl [1, 2, 3, 4, 0] rfl)
      · intro H locs ls hP hD hS hl
        have hP : gvP D vwCl (((((ws.set p_mim (a_mim, eZ y 2304 (bO (rK mcf (rCw sd mfx mce) mgm mlc mlg pr0) (1152 * sd) t mim (n)))).set p_mre (a_mre, eD y 576 mre1)).set p_mpr (a_mpr, eD y 2304 (prO (sVal mcf (rCw sd mfx mce) mgm mlc mlg pr0 mme t) (1152 * sd) t mpr (n)))).set p_mog (a_mog, eD y 192 mog1)).set p_mix (a_mix, eD y 240 (uF (fun k => ixV shr grp1 (fun q => mix (120 * sd + q)) t k) (5 * (24 * sd + t)) mix (5)))) H := hP
        have hD : gvD A (((((ws.set p_mim (a_mim, eZ y 2304 (bO (rK mcf (rCw sd mfx mce) mgm mlc mlg pr0) (1152 * sd) t mim (n)))).set p_mre (a_mre, eD y 576 mre1)).set p_mpr (a_mpr, eD y 2304 (prO (sVal mcf (rCw sd mfx mce) mgm mlc mlg pr0 mme t) (1152 * sd) t mpr (n)))).set p_mog (a_mog, eD y 192 mog1)).set p_mix (a_mix, eD y 240 (uF (fun k => ixV shr grp1 (fun q => mix (120 * sd + q)) t k) (5 * (24 * sd + t)) mix (5)))) := hD
        have hl : lv_has ls 9 [(0, .ref a_mod), (1, .int (nI (t))), (2, .int (nI (sd))), (3, .int (nI (24 * sd + t))), (4, .int (nI (5)))] := hl
        refine lv_iload hx hb dX7_reckons_150 (lv_at hl 4 rfl) ?_
        refine lv_iconst (v := nI 5) hx hb dX7_reckons_152 (by decide) ?_
        refine g_icmp_ge (tgt := 243) hx hb (by omega) (by omega) dX7_reckons_153 (by decide) (fun c_153 => ?_) (fun c_153 => absurd c_153 (by omega))
        have hP : gvP D vwCl (((((ws.set p_mim (a_mim, eZ y 2304 (bO (rK mcf (rCw sd mfx mce) mgm mlc mlg pr0) (1152 * sd) t mim (n)))).set p_mre (a_mre, eD y 576 mre1)).set p_mpr (a_mpr, eD y 2304 (prO (sVal mcf (rCw sd mfx mce) mgm mlc mlg pr0 mme t) (1152 * sd) t mpr (n)))).set p_mog (a_mog, eD y 192 mog1)).set p_mix (a_mix, eD y 240 mix1)) H := by rw [hmix1]; exact hP
        have hD : gvD A (((((ws.set p_mim (a_mim, eZ y 2304 (bO (rK mcf (rCw sd mfx mce) mgm mlc mlg pr0) (1152 * sd) t mim (n)))).set p_mre (a_mre, eD y 576 mre1)).set p_mpr (a_mpr, eD y 2304 (prO (sVal mcf (rCw sd mfx mce) mgm mlc mlg pr0 mme t) (1152 * sd) t mpr (n)))).set p_mog (a_mog, eD y 192 mog1)).set p_mix (a_mix, eD y 240 mix1)) := by rw [hmix1]; exact hD
        refine lv_aload_n hx hb dX7_reckons_243 rfl (lv_at hl 0 rfl) ?_
        have f_mod := g_ne (x := (a_mix, eD y 240 mix1)) (g_kne f0_mix f0_mod (Nat.ne_of_beq_eq_false rfl)) (g_ne (x := (a_mog, eD y 192 mog1)) (g_kne f0_mog f0_mod (Nat.ne_of_beq_eq_false rfl)) (g_ne (x := (a_mpr, eD y 2304 (prO (sVal mcf (rCw sd mfx mce) mgm mlc mlg pr0 mme t) (1152 * sd) t mpr (n)))) (g_kne f0_mpr f0_mod (Nat.ne_of_beq_eq_false rfl)) (g_ne (x := (a_mre, eD y 576 mre1)) (g_kne f0_mre f0_mod (Nat.ne_of_beq_eq_false rfl)) (g_ne (x := (a_mim, eZ y 2304 (bO (rK mcf (rCw sd mfx mce) mgm mlc mlg pr0) (1152 * sd) t mim (n)))) (g_kne f0_mim f0_mod (Nat.ne_of_beq_eq_false rfl)) (f0_mod)))))
        refine va_get (D := D) (ci := 8) (v := .ref a_mix) (C := RX7) (T := TX7) (N := 33) hx hb hts in_RX7 hown hE.1 (gv1 hP f_mod) 0 rfl rfl 21 (by decide) (hts (.fieldLink RX7 60 "BasketryOfficeModel" "index" "[D") (by decide +kernel)) (fun _ h9 => h9) rfl dX7_reckons_244 ?_
        refine lv_iconst (v := nI 5) hx hb dX7_reckons_247 (by decide) ?_
        refine lv_iload_n hx hb dX7_reckons_248 rfl (lv_at hl 3 rfl) ?_
        refine g_imul hx hb dX7_reckons_249 (pk_mul _ _) ?_
        have f_mix := g_eq (x := (a_mix, eD y 240 mix1)) (g_ne (x := (a_mog, eD y 192 mog1)) hdisr.2.2.2.2.2.1 (g_ne (x := (a_mpr, eD y 2304 (prO (sVal mcf (rCw sd mfx mce) mgm mlc mlg pr0 mme t) (1152 * sd) t mpr (n)))) hdisr.2.2.1 (g_ne (x := (a_mre, eD y 576 mre1)) hdisr.2.2.2.2.1 (g_ne (x := (a_mim, eZ y 2304 (bO (rK mcf (rCw sd mfx mce) mgm mlc mlg pr0) (1152 * sd) t mim (n)))) (g_kne f0_mim f0_mix (Nat.ne_of_beq_eq_false rfl)) (f0_mix)))))
        refine g_dald hx hb hE hP _ f_mix (by omega) (by decide) dX7_reckons_250 ?_
        refine g_dv (v' := mix1 (120 * sd + (t * 5 + 0))) (congrArg mix1 (by omega)) ?_
        refine lv_ldc2d (v := 4621819117588971520) hx hb hown (hts (.constantDouble RX7 159 (4621819117588971520)) (by decide +kernel)) dX7_reckons_251 ?_
        refine lv_dmul hx hb dX7_reckons_254 hnum.1 ?_
        refine lv_ldc2d (v := 4602678819172646912) hx hb hown (hts (.constantDouble RX7 161 (4602678819172646912)) (by decide +kernel)) dX7_reckons_255 ?_
        refine lv_dadd hx hb dX7_reckons_258 hnum.2.1 ?_
        refine lv_dstore (lv' := [(4, .double (FP.dadd (FP.dmul (mix1 (120 * sd + (t * 5 + 0))) 4621819117588971520) 4602678819172646912)), (0, .ref a_mod), (1, .int (nI (t))), (2, .int (nI (sd))), (3, .int (nI (24 * sd + t)))]) hx hb dX7_reckons_259 hl (by decide) rfl (fun ls hl => ?_)
        refine lv_aload_n hx hb dX7_reckons_261 rfl (lv_at hl 1 rfl) ?_
        refine va_get (D := D) (ci := 8) (v := .ref a_mnu) (C := RX7) (T := TX7) (N := 33) hx hb hts in_RX7 hown hE.1 (gv1 hP f_mod) 0 rfl rfl 22 (by decide) (hts (.fieldLink RX7 63 "BasketryOfficeModel" "number" "[I") (by decide +kernel)) (fun _ h9 => h9) rfl dX7_reckons_262 ?_
        refine lv_iload_n hx hb dX7_reckons_265 rfl (lv_at hl 4 rfl) ?_
        refine lv_dload hx hb dX7_reckons_266 (lv_at hl 0 rfl) ?_
        refine lv_dconst1 hx hb dX7_reckons_268 ?_
        refine g_dcmpg_ge (tgt := 277) hx hb dX7_reckons_269 dX7_reckons_270 (by decide) (fun c_269 => ?_) (fun c_269 => ?_)
        · refine lv_dload hx hb dX7_reckons_277 (lv_at hl 0 rfl) ?_
          refine lv_ldc2d (v := 4746794007244308480) hx hb hown (hts (.constantDouble RX7 163 (4746794007244308480)) (by decide +kernel)) dX7_reckons_279 ?_
          refine g_dcmpl_lt (tgt := 291) hx hb dX7_reckons_282 dX7_reckons_283 (by decide) (fun c_282 => ?_) (fun c_282 => ?_)
          · refine lv_dload hx hb dX7_reckons_291 (lv_at hl 0 rfl) ?_
            refine lv_d2i hx hb dX7_reckons_293 ?_
            refine g_iv (v' := nI (sNumN (mix1 (120 * sd + (t * 5 + 0))))) ((sNum_3 c_282 c_269).trans (sNumN_eq hnum.2.2)) ?_
            have f_mnu := g_ne (x := (a_mix, eD y 240 mix1)) (g_kne f0_mix f0_mnu (Nat.ne_of_beq_eq_false rfl)) (g_ne (x := (a_mog, eD y 192 mog1)) (g_kne f0_mog f0_mnu (Nat.ne_of_beq_eq_false rfl)) (g_ne (x := (a_mpr, eD y 2304 (prO (sVal mcf (rCw sd mfx mce) mgm mlc mlg pr0 mme t) (1152 * sd) t mpr (n)))) (g_kne f0_mpr f0_mnu (Nat.ne_of_beq_eq_false rfl)) (g_ne (x := (a_mre, eD y 576 mre1)) (g_kne f0_mre f0_mnu (Nat.ne_of_beq_eq_false rfl)) (g_ne (x := (a_mim, eZ y 2304 (bO (rK mcf (rCw sd mfx mce) mgm mlc mlg pr0) (1152 * sd) t mim (n)))) hdisr.2.2.2.2.2.2.2.2.2.2.2.2.2.2.1 (f0_mnu)))))
            refine g_nast hx hb hE hP hD hS _ f_mnu (by omega) (by decide) dX7_reckons_294 (fun H locs hP hD hS => ?_)
            refine g_vret hx hb hr hlocks () dX7_reckons_295 hS hP hD ?_
            exact trivial
          · refine lv_ldc (v := 2147483647) hx hb hown (hts (.constant RX7 165 (2147483647)) (by decide +kernel)) dX7_reckons_286 ?_
            rw [show (2147483647 : Int32) = nI 2147483647 from by decide]
            refine lv_goto (tgt := 294) hx hb dX7_reckons_288 (by decide) ?_
            refine g_iv (v' := nI (sNumN (mix1 (120 * sd + (t * 5 + 0))))) ((sNum_2 c_282).trans (sNumN_eq hnum.2.2)) ?_
            have f_mnu := g_ne (x := (a_mix, eD y 240 mix1)) (g_kne f0_mix f0_mnu (Nat.ne_of_beq_eq_false rfl)) (g_ne (x := (a_mog, eD y 192 mog1)) (g_kne f0_mog f0_mnu (Nat.ne_of_beq_eq_false rfl)) (g_ne (x := (a_mpr, eD y 2304 (prO (sVal mcf (rCw sd mfx mce) mgm mlc mlg pr0 mme t) (1152 * sd) t mpr (n)))) (g_kne f0_mpr f0_mnu (Nat.ne_of_beq_eq_false rfl)) (g_ne (x := (a_mre, eD y 576 mre1)) (g_kne f0_mre f0_mnu (Nat.ne_of_beq_eq_false rfl)) (g_ne (x := (a_mim, eZ y 2304 (bO (rK mcf (rCw sd mfx mce) mgm mlc mlg pr0) (1152 * sd) t mim (n)))) hdisr.2.2.2.2.2.2.2.2.2.2.2.2.2.2.1 (f0_mnu)))))
            refine g_nast hx hb hE hP hD hS _ f_mnu (by omega) (by decide) dX7_reckons_294 (fun H locs hP hD hS => ?_)
            refine g_vret hx hb hr hlocks () dX7_reckons_295 hS hP hD ?_
            exact trivial
        · refine lv_iconst (v := nI 1) hx hb dX7_reckons_273 (by decide) ?_
          refine lv_goto (tgt := 294) hx hb dX7_reckons_274 (by decide) ?_
          refine g_iv (v' := nI (sNumN (mix1 (120 * sd + (t * 5 + 0))))) ((sNum_1 c_269).trans (sNumN_eq hnum.2.2)) ?_
          have f_mnu := g_ne (x := (a_mix, eD y 240 mix1)) (g_kne f0_mix f0_mnu (Nat.ne_of_beq_eq_false rfl)) (g_ne (x := (a_mog, eD y 192 mog1)) (g_kne f0_mog f0_mnu (Nat.ne_of_beq_eq_false rfl)) (g_ne (x := (a_mpr, eD y 2304 (prO (sVal mcf (rCw sd mfx mce) mgm mlc mlg pr0 mme t) (1152 * sd) t mpr (n)))) (g_kne f0_mpr f0_mnu (Nat.ne_of_beq_eq_false rfl)) (g_ne (x := (a_mre, eD y 576 mre1)) (g_kne f0_mre f0_mnu (Nat.ne_of_beq_eq_false rfl)) (g_ne (x := (a_mim, eZ y 2304 (bO (rK mcf (rCw sd mfx mce) mgm mlc mlg pr0) (1152 * sd) t mim (n)))) hdisr.2.2.2.2.2.2.2.2.2.2.2.2.2.2.1 (f0_mnu)))))
          refine g_nast hx hb hE hP hD hS _ f_mnu (by omega) (by decide) dX7_reckons_294 (fun H locs hP hD hS => ?_)
          refine g_vret hx hb hr hlocks () dX7_reckons_295 hS hP hD ?_
          exact trivial
      · intro kd hj_kd ih_kd H locs ls hP hD hS hl
        have hP : gvP D vwCl (((((ws.set p_mim (a_mim, eZ y 2304 (bO (rK mcf (rCw sd mfx mce) mgm mlc mlg pr0) (1152 * sd) t mim (n)))).set p_mre (a_mre, eD y 576 mre1)).set p_mpr (a_mpr, eD y 2304 (prO (sVal mcf (rCw sd mfx mce) mgm mlc mlg pr0 mme t) (1152 * sd) t mpr (n)))).set p_mog (a_mog, eD y 192 mog1)).set p_mix (a_mix, eD y 240 (uF (fun k => ixV shr grp1 (fun q => mix (120 * sd + q)) t k) (5 * (24 * sd + t)) mix (kd)))) H := hP
        have hD : gvD A (((((ws.set p_mim (a_mim, eZ y 2304 (bO (rK mcf (rCw sd mfx mce) mgm mlc mlg pr0) (1152 * sd) t mim (n)))).set p_mre (a_mre, eD y 576 mre1)).set p_mpr (a_mpr, eD y 2304 (prO (sVal mcf (rCw sd mfx mce) mgm mlc mlg pr0 mme t) (1152 * sd) t mpr (n)))).set p_mog (a_mog, eD y 192 mog1)).set p_mix (a_mix, eD y 240 (uF (fun k => ixV shr grp1 (fun q => mix (120 * sd + q)) t k) (5 * (24 * sd + t)) mix (kd)))) := hD
        have hl : lv_has ls 9 [(0, .ref a_mod), (1, .int (nI (t))), (2, .int (nI (sd))), (3, .int (nI (24 * sd + t))), (4, .int (nI (kd)))] := hl
        refine lv_iload hx hb dX7_reckons_150 (lv_at hl 4 rfl) ?_
        refine lv_iconst (v := nI 5) hx hb dX7_reckons_152 (by decide) ?_
        refine g_icmp_ge (tgt := 243) hx hb (by omega) (by omega) dX7_reckons_153 (by decide) (fun c_153 => absurd c_153 (by omega)) (fun c_153 => ?_)
        refine g_dconst0 hx hb dX7_reckons_156 ?_
        refine lv_dstore (lv' := [(5, .double 0), (0, .ref a_mod), (1, .int (nI (t))), (2, .int (nI (sd))), (3, .int (nI (24 * sd + t))), (4, .int (nI (kd)))]) hx hb dX7_reckons_157 hl (by decide) rfl (fun ls hl => ?_)
        refine lv_iconst (v := nI 0) hx hb dX7_reckons_159 (by decide) ?_
        refine lv_istore (lv' := [(7, .int (nI (0))), (5, .double 0), (0, .ref a_mod), (1, .int (nI (t))), (2, .int (nI (sd))), (3, .int (nI (24 * sd + t))), (4, .int (nI (kd)))]) hx hb dX7_reckons_160 hl (by decide) rfl (fun ls hl => ?_)
        have hP : gvP D vwCl (((((ws.set p_mim (a_mim, eZ y 2304 (bO (rK mcf (rCw sd mfx mce) mgm mlc mlg pr0) (1152 * sd) t mim (n)))).set p_mre (a_mre, eD y 576 mre1)).set p_mpr (a_mpr, eD y 2304 (prO (sVal mcf (rCw sd mfx mce) mgm mlc mlg pr0 mme t) (1152 * sd) t mpr (n)))).set p_mog (a_mog, eD y 192 mog1)).set p_mix (a_mix, eD y 240 (uF (fun k => ixV shr grp1 (fun q => mix (120 * sd + q)) t k) (5 * (24 * sd + t)) mix (kd)))) _ := g_trP (rfl) hP
        have hD : gvD A (((((ws.set p_mim (a_mim, eZ y 2304 (bO (rK mcf (rCw sd mfx mce) mgm mlc mlg pr0) (1152 * sd) t mim (n)))).set p_mre (a_mre, eD y 576 mre1)).set p_mpr (a_mpr, eD y 2304 (prO (sVal mcf (rCw sd mfx mce) mgm mlc mlg pr0 mme t) (1152 * sd) t mpr (n)))).set p_mog (a_mog, eD y 192 mog1)).set p_mix (a_mix, eD y 240 (uF (fun k => ixV shr grp1 (fun q => mix (120 * sd + q)) t k) (5 * (24 * sd + t)) mix (kd)))) := g_trD (rfl) hD
        refine g_for (fun j => (((((ws.set p_mim (a_mim, eZ y 2304 (bO (rK mcf (rCw sd mfx mce) mgm mlc mlg pr0) (1152 * sd) t mim (n)))).set p_mre (a_mre, eD y 576 mre1)).set p_mpr (a_mpr, eD y 2304 (prO (sVal mcf (rCw sd mfx mce) mgm mlc mlg pr0 mme t) (1152 * sd) t mpr (n)))).set p_mog (a_mog, eD y 192 mog1)).set p_mix (a_mix, eD y 240 (uF (fun k => ixV shr grp1 (fun q => mix (120 * sd + q)) t k) (5 * (24 * sd + t)) mix (kd))))) (fun j => [(0, .ref a_mod), (1, .int (nI (t))), (2, .int (nI (sd))), (3, .int (nI (24 * sd + t))), (4, .int (nI (kd))), (5, .double (sStep shr grp1 kd t (j))), (7, .int (nI (j)))]) (4) (0) (by omega) ?_ ?_ hP hD hS (lv_sub hl [2, 3, 4, 5, 6, 1, 0] rfl)
        · intro H locs ls hP hD hS hl
          have hP : gvP D vwCl (((((ws.set p_mim (a_mim, eZ y 2304 (bO (rK mcf (rCw sd mfx mce) mgm mlc mlg pr0) (1152 * sd) t mim (n)))).set p_mre (a_mre, eD y 576 mre1)).set p_mpr (a_mpr, eD y 2304 (prO (sVal mcf (rCw sd mfx mce) mgm mlc mlg pr0 mme t) (1152 * sd) t mpr (n)))).set p_mog (a_mog, eD y 192 mog1)).set p_mix (a_mix, eD y 240 (uF (fun k => ixV shr grp1 (fun q => mix (120 * sd + q)) t k) (5 * (24 * sd + t)) mix (kd)))) H := hP
          have hD : gvD A (((((ws.set p_mim (a_mim, eZ y 2304 (bO (rK mcf (rCw sd mfx mce) mgm mlc mlg pr0) (1152 * sd) t mim (n)))).set p_mre (a_mre, eD y 576 mre1)).set p_mpr (a_mpr, eD y 2304 (prO (sVal mcf (rCw sd mfx mce) mgm mlc mlg pr0 mme t) (1152 * sd) t mpr (n)))).set p_mog (a_mog, eD y 192 mog1)).set p_mix (a_mix, eD y 240 (uF (fun k => ixV shr grp1 (fun q => mix (120 * sd + q)) t k) (5 * (24 * sd + t)) mix (kd)))) := hD
          have hl : lv_has ls 9 [(0, .ref a_mod), (1, .int (nI (t))), (2, .int (nI (sd))), (3, .int (nI (24 * sd + t))), (4, .int (nI (kd))), (5, .double (sStep shr grp1 kd t (4))), (7, .int (nI (4)))] := hl
          refine lv_iload hx hb dX7_reckons_162 (lv_at hl 6 rfl) ?_
          refine lv_iconst (v := nI 4) hx hb dX7_reckons_164 (by decide) ?_
          refine g_icmp_ge (tgt := 200) hx hb (by omega) (by omega) dX7_reckons_165 (by decide) (fun c_165 => ?_) (fun c_165 => absurd c_165 (by omega))
          refine lv_aload_n hx hb dX7_reckons_200 rfl (lv_at hl 0 rfl) ?_
          have f_mod := g_ne (x := (a_mix, eD y 240 (uF (fun k => ixV shr grp1 (fun q => mix (120 * sd + q)) t k) (5 * (24 * sd + t)) mix (kd)))) (g_kne f0_mix f0_mod (Nat.ne_of_beq_eq_false rfl)) (g_ne (x := (a_mog, eD y 192 mog1)) (g_kne f0_mog f0_mod (Nat.ne_of_beq_eq_false rfl)) (g_ne (x := (a_mpr, eD y 2304 (prO (sVal mcf (rCw sd mfx mce) mgm mlc mlg pr0 mme t) (1152 * sd) t mpr (n)))) (g_kne f0_mpr f0_mod (Nat.ne_of_beq_eq_false rfl)) (g_ne (x := (a_mre, eD y 576 mre1)) (g_kne f0_mre f0_mod (Nat.ne_of_beq_eq_false rfl)) (g_ne (x := (a_mim, eZ y 2304 (bO (rK mcf (rCw sd mfx mce) mgm mlc mlg pr0) (1152 * sd) t mim (n)))) (g_kne f0_mim f0_mod (Nat.ne_of_beq_eq_false rfl)) (f0_mod)))))
          refine va_get (D := D) (ci := 8) (v := .ref a_mix) (C := RX7) (T := TX7) (N := 33) hx hb hts in_RX7 hown hE.1 (gv1 hP f_mod) 0 rfl rfl 21 (by decide) (hts (.fieldLink RX7 60 "BasketryOfficeModel" "index" "[D") (by decide +kernel)) (fun _ h9 => h9) rfl dX7_reckons_201 ?_
          refine lv_iconst (v := nI 5) hx hb dX7_reckons_204 (by decide) ?_
          refine lv_iload_n hx hb dX7_reckons_205 rfl (lv_at hl 3 rfl) ?_
          refine g_imul hx hb dX7_reckons_206 (pk_mul _ _) ?_
          refine lv_iload hx hb dX7_reckons_207 (lv_at hl 4 rfl) ?_
          refine g_iadd hx hb dX7_reckons_209 (nI_add _ _) ?_
          refine lv_iload_n hx hb dX7_reckons_210 rfl (lv_at hl 1 rfl) ?_
          refine g_if_ne (tgt := 220) hx hb (by omega) dX7_reckons_211 (by decide) (fun c_211 => ?_) (fun c_211 => ?_)
          · refine lv_aload_n hx hb dX7_reckons_220 rfl (lv_at hl 0 rfl) ?_
            refine va_get (D := D) (ci := 8) (v := .ref a_mix) (C := RX7) (T := TX7) (N := 33) hx hb hts in_RX7 hown hE.1 (gv1 hP f_mod) 0 rfl rfl 21 (by decide) (hts (.fieldLink RX7 60 "BasketryOfficeModel" "index" "[D") (by decide +kernel)) (fun _ h9 => h9) rfl dX7_reckons_221 ?_
            refine lv_iconst (v := nI 5) hx hb dX7_reckons_224 (by decide) ?_
            refine lv_iload_n hx hb dX7_reckons_225 rfl (lv_at hl 3 rfl) ?_
            refine lv_iconst (v := nI 1) hx hb dX7_reckons_226 (by decide) ?_
            refine g_isub hx hb dX7_reckons_227 (pk_sub (by omega)) ?_
            refine g_imul hx hb dX7_reckons_228 (pk_mul _ _) ?_
            refine lv_iload hx hb dX7_reckons_229 (lv_at hl 4 rfl) ?_
            refine g_iadd hx hb dX7_reckons_231 (nI_add _ _) ?_
            have f_mix := g_eq (x := (a_mix, eD y 240 (uF (fun k => ixV shr grp1 (fun q => mix (120 * sd + q)) t k) (5 * (24 * sd + t)) mix (kd)))) (g_ne (x := (a_mog, eD y 192 mog1)) hdisr.2.2.2.2.2.1 (g_ne (x := (a_mpr, eD y 2304 (prO (sVal mcf (rCw sd mfx mce) mgm mlc mlg pr0 mme t) (1152 * sd) t mpr (n)))) hdisr.2.2.1 (g_ne (x := (a_mre, eD y 576 mre1)) hdisr.2.2.2.2.1 (g_ne (x := (a_mim, eZ y 2304 (bO (rK mcf (rCw sd mfx mce) mgm mlc mlg pr0) (1152 * sd) t mim (n)))) (g_kne f0_mim f0_mix (Nat.ne_of_beq_eq_false rfl)) (f0_mix)))))
            refine g_dald hx hb hE hP _ f_mix (by omega) (by decide) dX7_reckons_232 ?_
            refine g_dv (v' := mix (120 * sd + ((t - 1) * 5 + kd))) ((uF_out (Or.inl (by omega))).trans (congrArg mix (by omega))) ?_
            refine lv_dload hx hb dX7_reckons_233 (lv_at hl 5 rfl) ?_
            refine lv_dmul hx hb dX7_reckons_235 (hn4 kd hj_kd (by omega)) ?_
            refine g_dv (v' := ixV shr grp1 (fun q => mix (120 * sd + q)) t kd) (by rw [ixV, if_neg (by omega)]) ?_
            refine g_dast hx hb hE hP hD hS _ f_mix (by omega) (by decide) dX7_reckons_236 (fun H locs hP hD hS => ?_)
            have hP := g_trP g_ss hP
            have hD := g_trD g_ss hD
            refine lv_iinc (v := nI (kd + 1)) (lv' := [(4, .int (nI (kd + 1))), (0, .ref a_mod), (1, .int (nI (t))), (2, .int (nI (sd))), (3, .int (nI (24 * sd + t))), (5, .double (sStep shr grp1 kd t (4))), (7, .int (nI (4)))]) hx hb dX7_reckons_237 hl (k := 4) rfl (nI_add _ 1) (by decide) rfl (fun ls hl => ?_)
            refine lv_goto (tgt := 150) hx hb dX7_reckons_240 (by decide) ?_
            have hP : gvP D vwCl (((((ws.set p_mim (a_mim, eZ y 2304 (bO (rK mcf (rCw sd mfx mce) mgm mlc mlg pr0) (1152 * sd) t mim (n)))).set p_mre (a_mre, eD y 576 mre1)).set p_mpr (a_mpr, eD y 2304 (prO (sVal mcf (rCw sd mfx mce) mgm mlc mlg pr0 mme t) (1152 * sd) t mpr (n)))).set p_mog (a_mog, eD y 192 mog1)).set p_mix (a_mix, eD y 240 (uF (fun k => ixV shr grp1 (fun q => mix (120 * sd + q)) t k) (5 * (24 * sd + t)) mix (kd + 1)))) _ := g_trP (rfl) hP
            have hD : gvD A (((((ws.set p_mim (a_mim, eZ y 2304 (bO (rK mcf (rCw sd mfx mce) mgm mlc mlg pr0) (1152 * sd) t mim (n)))).set p_mre (a_mre, eD y 576 mre1)).set p_mpr (a_mpr, eD y 2304 (prO (sVal mcf (rCw sd mfx mce) mgm mlc mlg pr0 mme t) (1152 * sd) t mpr (n)))).set p_mog (a_mog, eD y 192 mog1)).set p_mix (a_mix, eD y 240 (uF (fun k => ixV shr grp1 (fun q => mix (120 * sd + q)) t k) (5 * (24 * sd + t)) mix (kd + 1)))) := g_trD (rfl) hD
            exact ih_kd H locs ls hP hD hS (lv_sub hl [1, 2, 3, 4, 0] rfl)
          · refine lv_ldc2d (v := 4636737291354636288) hx hb hown (hts (.constantDouble RX7 157 (4636737291354636288)) (by decide +kernel)) dX7_reckons_214 ?_
            refine lv_goto (tgt := 236) hx hb dX7_reckons_217 (by decide) ?_
            refine g_dv (v' := ixV shr grp1 (fun q => mix (120 * sd + q)) t kd) (by rw [ixV, if_pos c_211]) ?_
            have f_mix := g_eq (x := (a_mix, eD y 240 (uF (fun k => ixV shr grp1 (fun q => mix (120 * sd + q)) t k) (5 * (24 * sd + t)) mix (kd)))) (g_ne (x := (a_mog, eD y 192 mog1)) hdisr.2.2.2.2.2.1 (g_ne (x := (a_mpr, eD y 2304 (prO (sVal mcf (rCw sd mfx mce) mgm mlc mlg pr0 mme t) (1152 * sd) t mpr (n)))) hdisr.2.2.1 (g_ne (x := (a_mre, eD y 576 mre1)) hdisr.2.2.2.2.1 (g_ne (x := (a_mim, eZ y 2304 (bO (rK mcf (rCw sd mfx mce) mgm mlc mlg pr0) (1152 * sd) t mim (n)))) (g_kne f0_mim f0_mix (Nat.ne_of_beq_eq_false rfl)) (f0_mix)))))
            refine g_dast hx hb hE hP hD hS _ f_mix (by omega) (by decide) dX7_reckons_236 (fun H locs hP hD hS => ?_)
            have hP := g_trP g_ss hP
            have hD := g_trD g_ss hD
            refine lv_iinc (v := nI (kd + 1)) (lv' := [(4, .int (nI (kd + 1))), (0, .ref a_mod), (1, .int (nI (t))), (2, .int (nI (sd))), (3, .int (nI (24 * sd + t))), (5, .double (sStep shr grp1 kd t (4))), (7, .int (nI (4)))]) hx hb dX7_reckons_237 hl (k := 4) rfl (nI_add _ 1) (by decide) rfl (fun ls hl => ?_)
            refine lv_goto (tgt := 150) hx hb dX7_reckons_240 (by decide) ?_
            have hP : gvP D vwCl (((((ws.set p_mim (a_mim, eZ y 2304 (bO (rK mcf (rCw sd mfx mce) mgm mlc mlg pr0) (1152 * sd) t mim (n)))).set p_mre (a_mre, eD y 576 mre1)).set p_mpr (a_mpr, eD y 2304 (prO (sVal mcf (rCw sd mfx mce) mgm mlc mlg pr0 mme t) (1152 * sd) t mpr (n)))).set p_mog (a_mog, eD y 192 mog1)).set p_mix (a_mix, eD y 240 (uF (fun k => ixV shr grp1 (fun q => mix (120 * sd + q)) t k) (5 * (24 * sd + t)) mix (kd + 1)))) _ := g_trP (rfl) hP
            have hD : gvD A (((((ws.set p_mim (a_mim, eZ y 2304 (bO (rK mcf (rCw sd mfx mce) mgm mlc mlg pr0) (1152 * sd) t mim (n)))).set p_mre (a_mre, eD y 576 mre1)).set p_mpr (a_mpr, eD y 2304 (prO (sVal mcf (rCw sd mfx mce) mgm mlc mlg pr0 mme t) (1152 * sd) t mpr (n)))).set p_mog (a_mog, eD y 192 mog1)).set p_mix (a_mix, eD y 240 (uF (fun k => ixV shr grp1 (fun q => mix (120 * sd + q)) t k) (5 * (24 * sd + t)) mix (kd + 1)))) := g_trD (rfl) hD
            exact ih_kd H locs ls hP hD hS (lv_sub hl [1, 2, 3, 4, 0] rfl)
        · intro j hj_j ih_j H locs ls hP hD hS hl
          have hP : gvP D vwCl (((((ws.set p_mim (a_mim, eZ y 2304 (bO (rK mcf (rCw sd mfx mce) mgm mlc mlg pr0) (1152 * sd) t mim (n)))).set p_mre (a_mre, eD y 576 mre1)).set p_mpr (a_mpr, eD y 2304 (prO (sVal mcf (rCw sd mfx mce) mgm mlc mlg pr0 mme t) (1152 * sd) t mpr (n)))).set p_mog (a_mog, eD y 192 mog1)).set p_mix (a_mix, eD y 240 (uF (fun k => ixV shr grp1 (fun q => mix (120 * sd + q)) t k) (5 * (24 * sd + t)) mix (kd)))) H := hP
          have hD : gvD A (((((ws.set p_mim (a_mim, eZ y 2304 (bO (rK mcf (rCw sd mfx mce) mgm mlc mlg pr0) (1152 * sd) t mim (n)))).set p_mre (a_mre, eD y 576 mre1)).set p_mpr (a_mpr, eD y 2304 (prO (sVal mcf (rCw sd mfx mce) mgm mlc mlg pr0 mme t) (1152 * sd) t mpr (n)))).set p_mog (a_mog, eD y 192 mog1)).set p_mix (a_mix, eD y 240 (uF (fun k => ixV shr grp1 (fun q => mix (120 * sd + q)) t k) (5 * (24 * sd + t)) mix (kd)))) := hD
          have hl : lv_has ls 9 [(0, .ref a_mod), (1, .int (nI (t))), (2, .int (nI (sd))), (3, .int (nI (24 * sd + t))), (4, .int (nI (kd))), (5, .double (sStep shr grp1 kd t (j))), (7, .int (nI (j)))] := hl
          refine lv_iload hx hb dX7_reckons_162 (lv_at hl 6 rfl) ?_
          refine lv_iconst (v := nI 4) hx hb dX7_reckons_164 (by decide) ?_
          refine g_icmp_ge (tgt := 200) hx hb (by omega) (by omega) dX7_reckons_165 (by decide) (fun c_165 => absurd c_165 (by omega)) (fun c_165 => ?_)
          refine lv_dload hx hb dX7_reckons_168 (lv_at hl 5 rfl) ?_
          refine lv_aload_n hx hb dX7_reckons_170 rfl (lv_at hl 0 rfl) ?_
          refine lv_iload hx hb dX7_reckons_171 (lv_at hl 4 rfl) ?_
          refine lv_iload hx hb dX7_reckons_173 (lv_at hl 6 rfl) ?_
          refine lv_iload_n hx hb dX7_reckons_175 rfl (lv_at hl 1 rfl) ?_
          have f_mod := g_ne (x := (a_mix, eD y 240 (uF (fun k => ixV shr grp1 (fun q => mix (120 * sd + q)) t k) (5 * (24 * sd + t)) mix (kd)))) (g_kne f0_mix f0_mod (Nat.ne_of_beq_eq_false rfl)) (g_ne (x := (a_mog, eD y 192 mog1)) (g_kne f0_mog f0_mod (Nat.ne_of_beq_eq_false rfl)) (g_ne (x := (a_mpr, eD y 2304 (prO (sVal mcf (rCw sd mfx mce) mgm mlc mlg pr0 mme t) (1152 * sd) t mpr (n)))) (g_kne f0_mpr f0_mod (Nat.ne_of_beq_eq_false rfl)) (g_ne (x := (a_mre, eD y 576 mre1)) (g_kne f0_mre f0_mod (Nat.ne_of_beq_eq_false rfl)) (g_ne (x := (a_mim, eZ y 2304 (bO (rK mcf (rCw sd mfx mce) mgm mlc mlg pr0) (1152 * sd) t mim (n)))) (g_kne f0_mim f0_mod (Nat.ne_of_beq_eq_false rfl)) (f0_mod)))))
          have f_msp := g_ne (x := (a_mix, eD y 240 (uF (fun k => ixV shr grp1 (fun q => mix (120 * sd + q)) t k) (5 * (24 * sd + t)) mix (kd)))) (g_kne f0_mix f0_msp (Nat.ne_of_beq_eq_false rfl)) (g_ne (x := (a_mog, eD y 192 mog1)) (g_kne f0_mog f0_msp (Nat.ne_of_beq_eq_false rfl)) (g_ne (x := (a_mpr, eD y 2304 (prO (sVal mcf (rCw sd mfx mce) mgm mlc mlg pr0 mme t) (1152 * sd) t mpr (n)))) (g_kne f0_mpr f0_msp (Nat.ne_of_beq_eq_false rfl)) (g_ne (x := (a_mre, eD y 576 mre1)) (g_kne f0_mre f0_msp (Nat.ne_of_beq_eq_false rfl)) (g_ne (x := (a_mim, eZ y 2304 (bO (rK mcf (rCw sd mfx mce) mgm mlc mlg pr0) (1152 * sd) t mim (n)))) hdisr.2.2.2.2.2.2.2.2.2.2.2.2.2.2.2.1 (f0_msp)))))
          refine gc_V_d (As := [.int (nI (kd)), .int (nI (j)), .int (nI (t))]) (rest := [.double (sStep shr grp1 kd t (j))]) (c_X7_shareOf l f_mod f_msp b_msp hj_kd hj_j ht (hsh j hj_j)) ⟨hx, hb, hml, hown, hts⟩ (cwV 3 hts gX7_reckons_X7_shareOf rfl rfl rfl (by decide +kernel) ⟨Nat.le_of_ble_eq_true rfl, Nat.le_of_ble_eq_true rfl⟩) hE hP hD hS hA _ f_mod rfl rfl rfl rfl hl.1 (Nat.le_of_ble_eq_true rfl) dX7_reckons_176 ⟨Nat.le_of_ble_eq_true rfl, Nat.le_of_ble_eq_true rfl⟩ (fun r_176 u_176 H locs hP hD hS q_176 => ?_)
          have q9 := q_176.trans (hshr kd hj_kd j hj_j)
          subst q9
          refine lv_aload_n hx hb dX7_reckons_179 rfl (lv_at hl 0 rfl) ?_
          refine va_get (D := D) (ci := 8) (v := .ref a_mog) (C := RX7) (T := TX7) (N := 33) hx hb hts in_RX7 hown hE.1 (gv1 hP f_mod) 0 rfl rfl 20 (by decide) (hts (.fieldLink RX7 57 "BasketryOfficeModel" "ofGroup" "[D") (by decide +kernel)) (fun _ h9 => h9) rfl dX7_reckons_180 ?_
          refine lv_iconst (v := nI 4) hx hb dX7_reckons_183 (by decide) ?_
          refine lv_iload_n hx hb dX7_reckons_184 rfl (lv_at hl 3 rfl) ?_
          refine g_imul hx hb dX7_reckons_185 (pk_mul _ _) ?_
          refine lv_iload hx hb dX7_reckons_186 (lv_at hl 6 rfl) ?_
          refine g_iadd hx hb dX7_reckons_188 (nI_add _ _) ?_
          have f_mog := g_ne (x := (a_mix, eD y 240 (uF (fun k => ixV shr grp1 (fun q => mix (120 * sd + q)) t k) (5 * (24 * sd + t)) mix (kd)))) (Ne.symm hdisr.2.2.2.2.2.1) (g_eq (x := (a_mog, eD y 192 mog1)) (g_ne (x := (a_mpr, eD y 2304 (prO (sVal mcf (rCw sd mfx mce) mgm mlc mlg pr0 mme t) (1152 * sd) t mpr (n)))) hdisr.2.1 (g_ne (x := (a_mre, eD y 576 mre1)) hdisr.2.2.2.1 (g_ne (x := (a_mim, eZ y 2304 (bO (rK mcf (rCw sd mfx mce) mgm mlc mlg pr0) (1152 * sd) t mim (n)))) (g_kne f0_mim f0_mog (Nat.ne_of_beq_eq_false rfl)) (f0_mog)))))
          refine g_dald hx hb hE hP _ f_mog (by omega) (by decide) dX7_reckons_189 ?_
          refine g_dv (v' := grp1 (t * 4 + j)) ((congrArg mog1 (by omega)).trans (hgrp1 (t * 4 + j))) ?_
          refine lv_dmul hx hb dX7_reckons_190 (hn3 kd hj_kd j hj_j).1 ?_
          refine lv_dadd hx hb dX7_reckons_191 (hn3 kd hj_kd j hj_j).2 ?_
          refine lv_dstore (lv' := [(5, .double (FP.dadd (sStep shr grp1 kd t (j)) (FP.dmul (shr ((t * 5 + kd) * 4 + j)) (grp1 (t * 4 + j))))), (0, .ref a_mod), (1, .int (nI (t))), (2, .int (nI (sd))), (3, .int (nI (24 * sd + t))), (4, .int (nI (kd))), (7, .int (nI (j)))]) hx hb dX7_reckons_192 hl (by decide) rfl (fun ls hl => ?_)
          refine lv_iinc (v := nI (j + 1)) (lv' := [(7, .int (nI (j + 1))), (5, .double (FP.dadd (sStep shr grp1 kd t (j)) (FP.dmul (shr ((t * 5 + kd) * 4 + j)) (grp1 (t * 4 + j))))), (0, .ref a_mod), (1, .int (nI (t))), (2, .int (nI (sd))), (3, .int (nI (24 * sd + t))), (4, .int (nI (kd)))]) hx hb dX7_reckons_194 hl (k := 6) rfl (nI_add _ 1) (by decide) rfl (fun ls hl => ?_)
          refine lv_goto (tgt := 162) hx hb dX7_reckons_197 (by decide) ?_
          have hP : gvP D vwCl (((((ws.set p_mim (a_mim, eZ y 2304 (bO (rK mcf (rCw sd mfx mce) mgm mlc mlg pr0) (1152 * sd) t mim (n)))).set p_mre (a_mre, eD y 576 mre1)).set p_mpr (a_mpr, eD y 2304 (prO (sVal mcf (rCw sd mfx mce) mgm mlc mlg pr0 mme t) (1152 * sd) t mpr (n)))).set p_mog (a_mog, eD y 192 mog1)).set p_mix (a_mix, eD y 240 (uF (fun k => ixV shr grp1 (fun q => mix (120 * sd + q)) t k) (5 * (24 * sd + t)) mix (kd)))) _ := g_trP (rfl) hP
          have hD : gvD A (((((ws.set p_mim (a_mim, eZ y 2304 (bO (rK mcf (rCw sd mfx mce) mgm mlc mlg pr0) (1152 * sd) t mim (n)))).set p_mre (a_mre, eD y 576 mre1)).set p_mpr (a_mpr, eD y 2304 (prO (sVal mcf (rCw sd mfx mce) mgm mlc mlg pr0 mme t) (1152 * sd) t mpr (n)))).set p_mog (a_mog, eD y 192 mog1)).set p_mix (a_mix, eD y 240 (uF (fun k => ixV shr grp1 (fun q => mix (120 * sd + q)) t k) (5 * (24 * sd + t)) mix (kd)))) := g_trD (rfl) hD
          exact ih_j H locs ls hP hD hS (lv_sub hl [2, 3, 4, 5, 6, 1, 0] rfl)
    · intro g hj_g ih_g H locs ls hP hD hS hl
      have hP : gvP D vwCl ((((ws.set p_mim (a_mim, eZ y 2304 (bO (rK mcf (rCw sd mfx mce) mgm mlc mlg pr0) (1152 * sd) t mim (n)))).set p_mre (a_mre, eD y 576 mre1)).set p_mpr (a_mpr, eD y 2304 (prO (sVal mcf (rCw sd mfx mce) mgm mlc mlg pr0 mme t) (1152 * sd) t mpr (n)))).set p_mog (a_mog, eD y 192 (uF (fun g => sGrp mgr rel1 n g t) (4 * (24 * sd + t)) mog (g)))) H := hP
      have hD : gvD A ((((ws.set p_mim (a_mim, eZ y 2304 (bO (rK mcf (rCw sd mfx mce) mgm mlc mlg pr0) (1152 * sd) t mim (n)))).set p_mre (a_mre, eD y 576 mre1)).set p_mpr (a_mpr, eD y 2304 (prO (sVal mcf (rCw sd mfx mce) mgm mlc mlg pr0 mme t) (1152 * sd) t mpr (n)))).set p_mog (a_mog, eD y 192 (uF (fun g => sGrp mgr rel1 n g t) (4 * (24 * sd + t)) mog (g)))) := hD
      have hl : lv_has ls 9 [(0, .ref a_mod), (1, .int (nI (t))), (2, .int (nI (sd))), (3, .int (nI (24 * sd + t))), (4, .int (nI (g)))] := hl
      refine lv_iload hx hb dX7_reckons_36 (lv_at hl 4 rfl) ?_
      refine lv_iconst (v := nI 4) hx hb dX7_reckons_38 (by decide) ?_
      refine g_icmp_ge (tgt := 147) hx hb (by omega) (by omega) dX7_reckons_39 (by decide) (fun c_39 => absurd c_39 (by omega)) (fun c_39 => ?_)
      refine lv_iconst (v := nI 0) hx hb dX7_reckons_42 (by decide) ?_
      refine lv_istore (lv' := [(5, .int (nI (0))), (0, .ref a_mod), (1, .int (nI (t))), (2, .int (nI (sd))), (3, .int (nI (24 * sd + t))), (4, .int (nI (g)))]) hx hb dX7_reckons_43 hl (by decide) rfl (fun ls hl => ?_)
      refine g_dconst0 hx hb dX7_reckons_45 ?_
      refine lv_dstore (lv' := [(6, .double 0), (5, .int (nI (0))), (0, .ref a_mod), (1, .int (nI (t))), (2, .int (nI (sd))), (3, .int (nI (24 * sd + t))), (4, .int (nI (g)))]) hx hb dX7_reckons_46 hl (by decide) rfl (fun ls hl => ?_)
      refine lv_iconst (v := nI 0) hx hb dX7_reckons_48 (by decide) ?_
      refine lv_istore (lv' := [(8, .int (nI (0))), (6, .double 0), (5, .int (nI (0))), (0, .ref a_mod), (1, .int (nI (t))), (2, .int (nI (sd))), (3, .int (nI (24 * sd + t))), (4, .int (nI (g)))]) hx hb dX7_reckons_49 hl (by decide) rfl (fun ls hl => ?_)
      have hP : gvP D vwCl ((((ws.set p_mim (a_mim, eZ y 2304 (bO (rK mcf (rCw sd mfx mce) mgm mlc mlg pr0) (1152 * sd) t mim (n)))).set p_mre (a_mre, eD y 576 mre1)).set p_mpr (a_mpr, eD y 2304 (prO (sVal mcf (rCw sd mfx mce) mgm mlc mlg pr0 mme t) (1152 * sd) t mpr (n)))).set p_mog (a_mog, eD y 192 (uF (fun g => sGrp mgr rel1 n g t) (4 * (24 * sd + t)) mog (g)))) _ := g_trP (rfl) hP
      have hD : gvD A ((((ws.set p_mim (a_mim, eZ y 2304 (bO (rK mcf (rCw sd mfx mce) mgm mlc mlg pr0) (1152 * sd) t mim (n)))).set p_mre (a_mre, eD y 576 mre1)).set p_mpr (a_mpr, eD y 2304 (prO (sVal mcf (rCw sd mfx mce) mgm mlc mlg pr0 mme t) (1152 * sd) t mpr (n)))).set p_mog (a_mog, eD y 192 (uF (fun g => sGrp mgr rel1 n g t) (4 * (24 * sd + t)) mog (g)))) := g_trD (rfl) hD
      refine g_for (fun j => ((((ws.set p_mim (a_mim, eZ y 2304 (bO (rK mcf (rCw sd mfx mce) mgm mlc mlg pr0) (1152 * sd) t mim (n)))).set p_mre (a_mre, eD y 576 mre1)).set p_mpr (a_mpr, eD y 2304 (prO (sVal mcf (rCw sd mfx mce) mgm mlc mlg pr0 mme t) (1152 * sd) t mpr (n)))).set p_mog (a_mog, eD y 192 (uF (fun g => sGrp mgr rel1 n g t) (4 * (24 * sd + t)) mog (g))))) (fun j => [(0, .ref a_mod), (1, .int (nI (t))), (2, .int (nI (sd))), (3, .int (nI (24 * sd + t))), (4, .int (nI (g))), (5, .int (nI (mN (gM mgr rel1 g t) (t * 12) (j)))), (6, .double (mS (gM mgr rel1 g t) rel1 (t * 12) (j))), (8, .int (nI (j)))]) (n) (0) (by omega) ?_ ?_ hP hD hS (lv_sub hl [3, 4, 5, 6, 7, 2, 1, 0] rfl)
      · intro H locs ls hP hD hS hl
        have hP : gvP D vwCl ((((ws.set p_mim (a_mim, eZ y 2304 (bO (rK mcf (rCw sd mfx mce) mgm mlc mlg pr0) (1152 * sd) t mim (n)))).set p_mre (a_mre, eD y 576 mre1)).set p_mpr (a_mpr, eD y 2304 (prO (sVal mcf (rCw sd mfx mce) mgm mlc mlg pr0 mme t) (1152 * sd) t mpr (n)))).set p_mog (a_mog, eD y 192 (uF (fun g => sGrp mgr rel1 n g t) (4 * (24 * sd + t)) mog (g)))) H := hP
        have hD : gvD A ((((ws.set p_mim (a_mim, eZ y 2304 (bO (rK mcf (rCw sd mfx mce) mgm mlc mlg pr0) (1152 * sd) t mim (n)))).set p_mre (a_mre, eD y 576 mre1)).set p_mpr (a_mpr, eD y 2304 (prO (sVal mcf (rCw sd mfx mce) mgm mlc mlg pr0 mme t) (1152 * sd) t mpr (n)))).set p_mog (a_mog, eD y 192 (uF (fun g => sGrp mgr rel1 n g t) (4 * (24 * sd + t)) mog (g)))) := hD
        have hl : lv_has ls 9 [(0, .ref a_mod), (1, .int (nI (t))), (2, .int (nI (sd))), (3, .int (nI (24 * sd + t))), (4, .int (nI (g))), (5, .int (nI (mN (gM mgr rel1 g t) (t * 12) (n)))), (6, .double (mS (gM mgr rel1 g t) rel1 (t * 12) (n))), (8, .int (nI (n)))] := hl
        refine lv_iload hx hb dX7_reckons_51 (lv_at hl 7 rfl) ?_
        refine lv_aload_n hx hb dX7_reckons_53 rfl (lv_at hl 0 rfl) ?_
        have f_mod := g_ne (x := (a_mog, eD y 192 (uF (fun g => sGrp mgr rel1 n g t) (4 * (24 * sd + t)) mog (g)))) (g_kne f0_mog f0_mod (Nat.ne_of_beq_eq_false rfl)) (g_ne (x := (a_mpr, eD y 2304 (prO (sVal mcf (rCw sd mfx mce) mgm mlc mlg pr0 mme t) (1152 * sd) t mpr (n)))) (g_kne f0_mpr f0_mod (Nat.ne_of_beq_eq_false rfl)) (g_ne (x := (a_mre, eD y 576 mre1)) (g_kne f0_mre f0_mod (Nat.ne_of_beq_eq_false rfl)) (g_ne (x := (a_mim, eZ y 2304 (bO (rK mcf (rCw sd mfx mce) mgm mlc mlg pr0) (1152 * sd) t mim (n)))) (g_kne f0_mim f0_mod (Nat.ne_of_beq_eq_false rfl)) (f0_mod))))
        refine va_get (D := D) (ci := 8) (v := .int (nI (n))) (C := RX7) (T := TX7) (N := 33) hx hb hts in_RX7 hown hE.1 (gv1 hP f_mod) 0 rfl rfl 1 (by decide) (hts (.fieldLink RX7 98 "BasketryOfficeModel" "items" "I") (by decide +kernel)) (fun _ h9 => h9) rfl dX7_reckons_54 ?_
        refine g_icmp_ge (tgt := 115) hx hb (by omega) (by omega) dX7_reckons_57 (by decide) (fun c_57 => ?_) (fun c_57 => absurd c_57 (by omega))
        refine lv_aload_n hx hb dX7_reckons_115 rfl (lv_at hl 0 rfl) ?_
        refine va_get (D := D) (ci := 8) (v := .ref a_mog) (C := RX7) (T := TX7) (N := 33) hx hb hts in_RX7 hown hE.1 (gv1 hP f_mod) 0 rfl rfl 20 (by decide) (hts (.fieldLink RX7 57 "BasketryOfficeModel" "ofGroup" "[D") (by decide +kernel)) (fun _ h9 => h9) rfl dX7_reckons_116 ?_
        refine lv_iconst (v := nI 4) hx hb dX7_reckons_119 (by decide) ?_
        refine lv_iload_n hx hb dX7_reckons_120 rfl (lv_at hl 3 rfl) ?_
        refine g_imul hx hb dX7_reckons_121 (pk_mul _ _) ?_
        refine lv_iload hx hb dX7_reckons_122 (lv_at hl 4 rfl) ?_
        refine g_iadd hx hb dX7_reckons_124 (nI_add _ _) ?_
        refine lv_iload hx hb dX7_reckons_125 (lv_at hl 5 rfl) ?_
        refine g_if_ne (tgt := 134) hx hb (by have := mN_le (gM mgr rel1 g t) (t * 12) n; omega) dX7_reckons_127 (by decide) (fun c_127 => ?_) (fun c_127 => ?_)
        · refine lv_dload hx hb dX7_reckons_134 (lv_at hl 6 rfl) ?_
          refine lv_iload hx hb dX7_reckons_136 (lv_at hl 5 rfl) ?_
          refine lv_i2d hx hb dX7_reckons_138 ?_
          refine lv_ddiv hx hb dX7_reckons_139 ((hn2 g hj_g).2 (by omega)) ?_
          refine g_dv (v' := sGrp mgr rel1 n g t) (by rw [sGrp, if_neg (by omega)]) ?_
          have f_mog := g_eq (x := (a_mog, eD y 192 (uF (fun g => sGrp mgr rel1 n g t) (4 * (24 * sd + t)) mog (g)))) (g_ne (x := (a_mpr, eD y 2304 (prO (sVal mcf (rCw sd mfx mce) mgm mlc mlg pr0 mme t) (1152 * sd) t mpr (n)))) hdisr.2.1 (g_ne (x := (a_mre, eD y 576 mre1)) hdisr.2.2.2.1 (g_ne (x := (a_mim, eZ y 2304 (bO (rK mcf (rCw sd mfx mce) mgm mlc mlg pr0) (1152 * sd) t mim (n)))) (g_kne f0_mim f0_mog (Nat.ne_of_beq_eq_false rfl)) (f0_mog))))
          refine g_dast hx hb hE hP hD hS _ f_mog (by omega) (by decide) dX7_reckons_140 (fun H locs hP hD hS => ?_)
          have hP := g_trP g_ss hP
          have hD := g_trD g_ss hD
          refine lv_iinc (v := nI (g + 1)) (lv' := [(4, .int (nI (g + 1))), (0, .ref a_mod), (1, .int (nI (t))), (2, .int (nI (sd))), (3, .int (nI (24 * sd + t))), (5, .int (nI (mN (gM mgr rel1 g t) (t * 12) (n)))), (6, .double (mS (gM mgr rel1 g t) rel1 (t * 12) (n))), (8, .int (nI (n)))]) hx hb dX7_reckons_141 hl (k := 4) rfl (nI_add _ 1) (by decide) rfl (fun ls hl => ?_)
          refine lv_goto (tgt := 36) hx hb dX7_reckons_144 (by decide) ?_
          have hP : gvP D vwCl ((((ws.set p_mim (a_mim, eZ y 2304 (bO (rK mcf (rCw sd mfx mce) mgm mlc mlg pr0) (1152 * sd) t mim (n)))).set p_mre (a_mre, eD y 576 mre1)).set p_mpr (a_mpr, eD y 2304 (prO (sVal mcf (rCw sd mfx mce) mgm mlc mlg pr0 mme t) (1152 * sd) t mpr (n)))).set p_mog (a_mog, eD y 192 (uF (fun g => sGrp mgr rel1 n g t) (4 * (24 * sd + t)) mog (g + 1)))) _ := g_trP (rfl) hP
          have hD : gvD A ((((ws.set p_mim (a_mim, eZ y 2304 (bO (rK mcf (rCw sd mfx mce) mgm mlc mlg pr0) (1152 * sd) t mim (n)))).set p_mre (a_mre, eD y 576 mre1)).set p_mpr (a_mpr, eD y 2304 (prO (sVal mcf (rCw sd mfx mce) mgm mlc mlg pr0 mme t) (1152 * sd) t mpr (n)))).set p_mog (a_mog, eD y 192 (uF (fun g => sGrp mgr rel1 n g t) (4 * (24 * sd + t)) mog (g + 1)))) := g_trD (rfl) hD
          exact ih_g H locs ls hP hD hS (lv_sub hl [1, 2, 3, 4, 0] rfl)
        · refine lv_dconst1 hx hb dX7_reckons_130 ?_
          refine lv_goto (tgt := 140) hx hb dX7_reckons_131 (by decide) ?_
          refine g_dv (v' := sGrp mgr rel1 n g t) (by rw [sGrp, if_pos c_127]) ?_
          have f_mog := g_eq (x := (a_mog, eD y 192 (uF (fun g => sGrp mgr rel1 n g t) (4 * (24 * sd + t)) mog (g)))) (g_ne (x := (a_mpr, eD y 2304 (prO (sVal mcf (rCw sd mfx mce) mgm mlc mlg pr0 mme t) (1152 * sd) t mpr (n)))) hdisr.2.1 (g_ne (x := (a_mre, eD y 576 mre1)) hdisr.2.2.2.1 (g_ne (x := (a_mim, eZ y 2304 (bO (rK mcf (rCw sd mfx mce) mgm mlc mlg pr0) (1152 * sd) t mim (n)))) (g_kne f0_mim f0_mog (Nat.ne_of_beq_eq_false rfl)) (f0_mog))))
          refine g_dast hx hb hE hP hD hS _ f_mog (by omega) (by decide) dX7_reckons_140 (fun H locs hP hD hS => ?_)
          have hP := g_trP g_ss hP
          have hD := g_trD g_ss hD
          refine lv_iinc (v := nI (g + 1)) (lv' := [(4, .int (nI (g + 1))), (0, .ref a_mod), (1, .int (nI (t))), (2, .int (nI (sd))), (3, .int (nI (24 * sd + t))), (5, .int (nI (mN (gM mgr rel1 g t) (t * 12) (n)))), (6, .double (mS (gM mgr rel1 g t) rel1 (t * 12) (n))), (8, .int (nI (n)))]) hx hb dX7_reckons_141 hl (k := 4) rfl (nI_add _ 1) (by decide) rfl (fun ls hl => ?_)
          refine lv_goto (tgt := 36) hx hb dX7_reckons_144 (by decide) ?_
          have hP : gvP D vwCl ((((ws.set p_mim (a_mim, eZ y 2304 (bO (rK mcf (rCw sd mfx mce) mgm mlc mlg pr0) (1152 * sd) t mim (n)))).set p_mre (a_mre, eD y 576 mre1)).set p_mpr (a_mpr, eD y 2304 (prO (sVal mcf (rCw sd mfx mce) mgm mlc mlg pr0 mme t) (1152 * sd) t mpr (n)))).set p_mog (a_mog, eD y 192 (uF (fun g => sGrp mgr rel1 n g t) (4 * (24 * sd + t)) mog (g + 1)))) _ := g_trP (rfl) hP
          have hD : gvD A ((((ws.set p_mim (a_mim, eZ y 2304 (bO (rK mcf (rCw sd mfx mce) mgm mlc mlg pr0) (1152 * sd) t mim (n)))).set p_mre (a_mre, eD y 576 mre1)).set p_mpr (a_mpr, eD y 2304 (prO (sVal mcf (rCw sd mfx mce) mgm mlc mlg pr0 mme t) (1152 * sd) t mpr (n)))).set p_mog (a_mog, eD y 192 (uF (fun g => sGrp mgr rel1 n g t) (4 * (24 * sd + t)) mog (g + 1)))) := g_trD (rfl) hD
          exact ih_g H locs ls hP hD hS (lv_sub hl [1, 2, 3, 4, 0] rfl)
      · intro j hj_j ih_j H locs ls hP hD hS hl
        have hP : gvP D vwCl ((((ws.set p_mim (a_mim, eZ y 2304 (bO (rK mcf (rCw sd mfx mce) mgm mlc mlg pr0) (1152 * sd) t mim (n)))).set p_mre (a_mre, eD y 576 mre1)).set p_mpr (a_mpr, eD y 2304 (prO (sVal mcf (rCw sd mfx mce) mgm mlc mlg pr0 mme t) (1152 * sd) t mpr (n)))).set p_mog (a_mog, eD y 192 (uF (fun g => sGrp mgr rel1 n g t) (4 * (24 * sd + t)) mog (g)))) H := hP
        have hD : gvD A ((((ws.set p_mim (a_mim, eZ y 2304 (bO (rK mcf (rCw sd mfx mce) mgm mlc mlg pr0) (1152 * sd) t mim (n)))).set p_mre (a_mre, eD y 576 mre1)).set p_mpr (a_mpr, eD y 2304 (prO (sVal mcf (rCw sd mfx mce) mgm mlc mlg pr0 mme t) (1152 * sd) t mpr (n)))).set p_mog (a_mog, eD y 192 (uF (fun g => sGrp mgr rel1 n g t) (4 * (24 * sd + t)) mog (g)))) := hD
        have hl : lv_has ls 9 [(0, .ref a_mod), (1, .int (nI (t))), (2, .int (nI (sd))), (3, .int (nI (24 * sd + t))), (4, .int (nI (g))), (5, .int (nI (mN (gM mgr rel1 g t) (t * 12) (j)))), (6, .double (mS (gM mgr rel1 g t) rel1 (t * 12) (j))), (8, .int (nI (j)))] := hl
        refine lv_iload hx hb dX7_reckons_51 (lv_at hl 7 rfl) ?_
        refine lv_aload_n hx hb dX7_reckons_53 rfl (lv_at hl 0 rfl) ?_
        have f_mod := g_ne (x := (a_mog, eD y 192 (uF (fun g => sGrp mgr rel1 n g t) (4 * (24 * sd + t)) mog (g)))) (g_kne f0_mog f0_mod (Nat.ne_of_beq_eq_false rfl)) (g_ne (x := (a_mpr, eD y 2304 (prO (sVal mcf (rCw sd mfx mce) mgm mlc mlg pr0 mme t) (1152 * sd) t mpr (n)))) (g_kne f0_mpr f0_mod (Nat.ne_of_beq_eq_false rfl)) (g_ne (x := (a_mre, eD y 576 mre1)) (g_kne f0_mre f0_mod (Nat.ne_of_beq_eq_false rfl)) (g_ne (x := (a_mim, eZ y 2304 (bO (rK mcf (rCw sd mfx mce) mgm mlc mlg pr0) (1152 * sd) t mim (n)))) (g_kne f0_mim f0_mod (Nat.ne_of_beq_eq_false rfl)) (f0_mod))))
        refine va_get (D := D) (ci := 8) (v := .int (nI (n))) (C := RX7) (T := TX7) (N := 33) hx hb hts in_RX7 hown hE.1 (gv1 hP f_mod) 0 rfl rfl 1 (by decide) (hts (.fieldLink RX7 98 "BasketryOfficeModel" "items" "I") (by decide +kernel)) (fun _ h9 => h9) rfl dX7_reckons_54 ?_
        refine g_icmp_ge (tgt := 115) hx hb (by omega) (by omega) dX7_reckons_57 (by decide) (fun c_57 => absurd c_57 (by omega)) (fun c_57 => ?_)
        refine lv_aload_n hx hb dX7_reckons_60 rfl (lv_at hl 0 rfl) ?_
        refine va_get (D := D) (ci := 8) (v := .ref a_mgr) (C := RX7) (T := TX7) (N := 33) hx hb hts in_RX7 hown hE.1 (gv1 hP f_mod) 0 rfl rfl 2 (by decide) (hts (.fieldLink RX7 7 "BasketryOfficeModel" "group" "[I") (by decide +kernel)) (fun _ h9 => h9) rfl dX7_reckons_61 ?_
        refine lv_iload hx hb dX7_reckons_64 (lv_at hl 7 rfl) ?_
        have f_mgr := g_ne (x := (a_mog, eD y 192 (uF (fun g => sGrp mgr rel1 n g t) (4 * (24 * sd + t)) mog (g)))) (g_kne f0_mog f0_mgr (Nat.ne_of_beq_eq_false rfl)) (g_ne (x := (a_mpr, eD y 2304 (prO (sVal mcf (rCw sd mfx mce) mgm mlc mlg pr0 mme t) (1152 * sd) t mpr (n)))) (g_kne f0_mpr f0_mgr (Nat.ne_of_beq_eq_false rfl)) (g_ne (x := (a_mre, eD y 576 mre1)) (g_kne f0_mre f0_mgr (Nat.ne_of_beq_eq_false rfl)) (g_ne (x := (a_mim, eZ y 2304 (bO (rK mcf (rCw sd mfx mce) mgm mlc mlg pr0) (1152 * sd) t mim (n)))) hdisr.2.2.2.2.2.2.2.2.2.2.2.2.2.1 (f0_mgr))))
        refine g_nald hx hb hE hP _ f_mgr (by omega) (by decide) dX7_reckons_66 ?_
        have bd_66_1 := b_mgr (j)
        refine lv_iload hx hb dX7_reckons_67 (lv_at hl 4 rfl) ?_
        refine g_icmp_ne (tgt := 109) hx hb (by omega) (by omega) dX7_reckons_69 (by decide) (fun c_69 => ?_) (fun c_69 => ?_)
        · refine lv_iinc (v := nI (j + 1)) (lv' := [(8, .int (nI (j + 1))), (0, .ref a_mod), (1, .int (nI (t))), (2, .int (nI (sd))), (3, .int (nI (24 * sd + t))), (4, .int (nI (g))), (5, .int (nI (mN (gM mgr rel1 g t) (t * 12) (j)))), (6, .double (mS (gM mgr rel1 g t) rel1 (t * 12) (j)))]) hx hb dX7_reckons_109 hl (k := 7) rfl (nI_add _ 1) (by decide) rfl (fun ls hl => ?_)
          refine lv_goto (tgt := 51) hx hb dX7_reckons_112 (by decide) ?_
          have hP : gvP D vwCl ((((ws.set p_mim (a_mim, eZ y 2304 (bO (rK mcf (rCw sd mfx mce) mgm mlc mlg pr0) (1152 * sd) t mim (n)))).set p_mre (a_mre, eD y 576 mre1)).set p_mpr (a_mpr, eD y 2304 (prO (sVal mcf (rCw sd mfx mce) mgm mlc mlg pr0 mme t) (1152 * sd) t mpr (n)))).set p_mog (a_mog, eD y 192 (uF (fun g => sGrp mgr rel1 n g t) (4 * (24 * sd + t)) mog (g)))) _ := g_trP (rfl) hP
          have hD : gvD A ((((ws.set p_mim (a_mim, eZ y 2304 (bO (rK mcf (rCw sd mfx mce) mgm mlc mlg pr0) (1152 * sd) t mim (n)))).set p_mre (a_mre, eD y 576 mre1)).set p_mpr (a_mpr, eD y 2304 (prO (sVal mcf (rCw sd mfx mce) mgm mlc mlg pr0 mme t) (1152 * sd) t mpr (n)))).set p_mog (a_mog, eD y 192 (uF (fun g => sGrp mgr rel1 n g t) (4 * (24 * sd + t)) mog (g)))) := g_trD (rfl) hD
          exact ih_j H locs ls hP hD hS (lv_sub hl [1, 2, 3, 4, 5, 6, 7, 0] (by rw [mS_f (gM_f (Or.inl c_69)), mN_f (gM_f (Or.inl c_69))]; rfl))
        · refine lv_aload_n hx hb dX7_reckons_72 rfl (lv_at hl 0 rfl) ?_
          refine va_get (D := D) (ci := 8) (v := .ref a_mre) (C := RX7) (T := TX7) (N := 33) hx hb hts in_RX7 hown hE.1 (gv1 hP f_mod) 0 rfl rfl 19 (by decide) (hts (.fieldLink RX7 54 "BasketryOfficeModel" "relative" "[D") (by decide +kernel)) (fun _ h9 => h9) rfl dX7_reckons_73 ?_
          refine lv_bipush (v := nI 12) hx hb dX7_reckons_76 (by decide) ?_
          refine lv_iload_n hx hb dX7_reckons_78 rfl (lv_at hl 3 rfl) ?_
          refine g_imul hx hb dX7_reckons_79 (pk_mul _ _) ?_
          refine lv_iload hx hb dX7_reckons_80 (lv_at hl 7 rfl) ?_
          refine g_iadd hx hb dX7_reckons_82 (nI_add _ _) ?_
          have f_mre := g_ne (x := (a_mog, eD y 192 (uF (fun g => sGrp mgr rel1 n g t) (4 * (24 * sd + t)) mog (g)))) (Ne.symm hdisr.2.2.2.1) (g_ne (x := (a_mpr, eD y 2304 (prO (sVal mcf (rCw sd mfx mce) mgm mlc mlg pr0 mme t) (1152 * sd) t mpr (n)))) hdisr.1 (g_eq (x := (a_mre, eD y 576 mre1)) (g_ne (x := (a_mim, eZ y 2304 (bO (rK mcf (rCw sd mfx mce) mgm mlc mlg pr0) (1152 * sd) t mim (n)))) (g_kne f0_mim f0_mre (Nat.ne_of_beq_eq_false rfl)) (f0_mre))))
          refine g_dald hx hb hE hP _ f_mre (by omega) (by decide) dX7_reckons_83 ?_
          refine g_dv (v' := rel1 (t * 12 + j)) ((congrArg mre1 (by omega)).trans (hrel1 (t * 12 + j))) ?_
          refine g_dconst0 hx hb dX7_reckons_84 ?_
          refine g_dcmpl_le (tgt := 109) hx hb dX7_reckons_85 dX7_reckons_86 (by decide) (fun c_85 => ?_) (fun c_85 => ?_)
          · refine lv_iinc (v := nI (j + 1)) (lv' := [(8, .int (nI (j + 1))), (0, .ref a_mod), (1, .int (nI (t))), (2, .int (nI (sd))), (3, .int (nI (24 * sd + t))), (4, .int (nI (g))), (5, .int (nI (mN (gM mgr rel1 g t) (t * 12) (j)))), (6, .double (mS (gM mgr rel1 g t) rel1 (t * 12) (j)))]) hx hb dX7_reckons_109 hl (k := 7) rfl (nI_add _ 1) (by decide) rfl (fun ls hl => ?_)
            refine lv_goto (tgt := 51) hx hb dX7_reckons_112 (by decide) ?_
            have hP : gvP D vwCl ((((ws.set p_mim (a_mim, eZ y 2304 (bO (rK mcf (rCw sd mfx mce) mgm mlc mlg pr0) (1152 * sd) t mim (n)))).set p_mre (a_mre, eD y 576 mre1)).set p_mpr (a_mpr, eD y 2304 (prO (sVal mcf (rCw sd mfx mce) mgm mlc mlg pr0 mme t) (1152 * sd) t mpr (n)))).set p_mog (a_mog, eD y 192 (uF (fun g => sGrp mgr rel1 n g t) (4 * (24 * sd + t)) mog (g)))) _ := g_trP (rfl) hP
            have hD : gvD A ((((ws.set p_mim (a_mim, eZ y 2304 (bO (rK mcf (rCw sd mfx mce) mgm mlc mlg pr0) (1152 * sd) t mim (n)))).set p_mre (a_mre, eD y 576 mre1)).set p_mpr (a_mpr, eD y 2304 (prO (sVal mcf (rCw sd mfx mce) mgm mlc mlg pr0 mme t) (1152 * sd) t mpr (n)))).set p_mog (a_mog, eD y 192 (uF (fun g => sGrp mgr rel1 n g t) (4 * (24 * sd + t)) mog (g)))) := g_trD (rfl) hD
            exact ih_j H locs ls hP hD hS (lv_sub hl [1, 2, 3, 4, 5, 6, 7, 0] (by rw [mS_f (gM_f (Or.inr c_85)), mN_f (gM_f (Or.inr c_85))]; rfl))
          · refine lv_iinc (v := nI (mN (gM mgr rel1 g t) (t * 12) (j) + 1)) (lv' := [(5, .int (nI (mN (gM mgr rel1 g t) (t * 12) (j) + 1))), (0, .ref a_mod), (1, .int (nI (t))), (2, .int (nI (sd))), (3, .int (nI (24 * sd + t))), (4, .int (nI (g))), (6, .double (mS (gM mgr rel1 g t) rel1 (t * 12) (j))), (8, .int (nI (j)))]) hx hb dX7_reckons_89 hl (k := 5) rfl (nI_add _ 1) (by decide) rfl (fun ls hl => ?_)
            refine lv_dload hx hb dX7_reckons_92 (lv_at hl 6 rfl) ?_
            refine lv_aload_n hx hb dX7_reckons_94 rfl (lv_at hl 1 rfl) ?_
            refine va_get (D := D) (ci := 8) (v := .ref a_mre) (C := RX7) (T := TX7) (N := 33) hx hb hts in_RX7 hown hE.1 (gv1 hP f_mod) 0 rfl rfl 19 (by decide) (hts (.fieldLink RX7 54 "BasketryOfficeModel" "relative" "[D") (by decide +kernel)) (fun _ h9 => h9) rfl dX7_reckons_95 ?_
            refine lv_bipush (v := nI 12) hx hb dX7_reckons_98 (by decide) ?_
            refine lv_iload_n hx hb dX7_reckons_100 rfl (lv_at hl 4 rfl) ?_
            refine g_imul hx hb dX7_reckons_101 (pk_mul _ _) ?_
            refine lv_iload hx hb dX7_reckons_102 (lv_at hl 7 rfl) ?_
            refine g_iadd hx hb dX7_reckons_104 (nI_add _ _) ?_
            refine g_dald hx hb hE hP _ f_mre (by omega) (by decide) dX7_reckons_105 ?_
            refine g_dv (v' := rel1 (t * 12 + j)) ((congrArg mre1 (by omega)).trans (hrel1 (t * 12 + j))) ?_
            refine lv_dadd hx hb dX7_reckons_106 ((hn2 g hj_g).1 j hj_j (gM_t c_69 c_85)) ?_
            refine lv_dstore (lv' := [(6, .double (FP.dadd (mS (gM mgr rel1 g t) rel1 (t * 12) (j)) (rel1 (t * 12 + j)))), (5, .int (nI (mN (gM mgr rel1 g t) (t * 12) (j) + 1))), (0, .ref a_mod), (1, .int (nI (t))), (2, .int (nI (sd))), (3, .int (nI (24 * sd + t))), (4, .int (nI (g))), (8, .int (nI (j)))]) hx hb dX7_reckons_107 hl (by decide) rfl (fun ls hl => ?_)
            refine lv_iinc (v := nI (j + 1)) (lv' := [(8, .int (nI (j + 1))), (6, .double (FP.dadd (mS (gM mgr rel1 g t) rel1 (t * 12) (j)) (rel1 (t * 12 + j)))), (5, .int (nI (mN (gM mgr rel1 g t) (t * 12) (j) + 1))), (0, .ref a_mod), (1, .int (nI (t))), (2, .int (nI (sd))), (3, .int (nI (24 * sd + t))), (4, .int (nI (g)))]) hx hb dX7_reckons_109 hl (k := 7) rfl (nI_add _ 1) (by decide) rfl (fun ls hl => ?_)
            refine lv_goto (tgt := 51) hx hb dX7_reckons_112 (by decide) ?_
            have hP : gvP D vwCl ((((ws.set p_mim (a_mim, eZ y 2304 (bO (rK mcf (rCw sd mfx mce) mgm mlc mlg pr0) (1152 * sd) t mim (n)))).set p_mre (a_mre, eD y 576 mre1)).set p_mpr (a_mpr, eD y 2304 (prO (sVal mcf (rCw sd mfx mce) mgm mlc mlg pr0 mme t) (1152 * sd) t mpr (n)))).set p_mog (a_mog, eD y 192 (uF (fun g => sGrp mgr rel1 n g t) (4 * (24 * sd + t)) mog (g)))) _ := g_trP (rfl) hP
            have hD : gvD A ((((ws.set p_mim (a_mim, eZ y 2304 (bO (rK mcf (rCw sd mfx mce) mgm mlc mlg pr0) (1152 * sd) t mim (n)))).set p_mre (a_mre, eD y 576 mre1)).set p_mpr (a_mpr, eD y 2304 (prO (sVal mcf (rCw sd mfx mce) mgm mlc mlg pr0 mme t) (1152 * sd) t mpr (n)))).set p_mog (a_mog, eD y 192 (uF (fun g => sGrp mgr rel1 n g t) (4 * (24 * sd + t)) mog (g)))) := g_trD (rfl) hD
            exact ih_j H locs ls hP hD hS (lv_sub hl [3, 4, 5, 6, 7, 2, 1, 0] (by rw [mS_t (gM_t c_69 c_85), mN_t (gM_t c_69 c_85)]; rfl))
  · intro i hj_i ih_i H locs ls hP hD hS hl
    have hP : gvP D vwCl (((ws.set p_mim (a_mim, eZ y 2304 (bO (rK mcf (rCw sd mfx mce) mgm mlc mlg pr0) (1152 * sd) t mim (i)))).set p_mre (a_mre, eD y 576 (uF (sIts mcf (rCw sd mfx mce) mgm mlc mlg pr0 mme t) (12 * (24 * sd + t)) mre (i)))).set p_mpr (a_mpr, eD y 2304 (prO (sVal mcf (rCw sd mfx mce) mgm mlc mlg pr0 mme t) (1152 * sd) t mpr (i)))) H := hP
    have hD : gvD A (((ws.set p_mim (a_mim, eZ y 2304 (bO (rK mcf (rCw sd mfx mce) mgm mlc mlg pr0) (1152 * sd) t mim (i)))).set p_mre (a_mre, eD y 576 (uF (sIts mcf (rCw sd mfx mce) mgm mlc mlg pr0 mme t) (12 * (24 * sd + t)) mre (i)))).set p_mpr (a_mpr, eD y 2304 (prO (sVal mcf (rCw sd mfx mce) mgm mlc mlg pr0 mme t) (1152 * sd) t mpr (i)))) := hD
    have hl : lv_has ls 9 [(0, .ref a_mod), (1, .int (nI (t))), (2, .int (nI (sd))), (3, .int (nI (24 * sd + t))), (4, .int (nI (i)))] := hl
    refine lv_iload hx hb dX7_reckons_10 (lv_at hl 4 rfl) ?_
    refine lv_aload_n hx hb dX7_reckons_12 rfl (lv_at hl 0 rfl) ?_
    have f_mod := g_ne (x := (a_mpr, eD y 2304 (prO (sVal mcf (rCw sd mfx mce) mgm mlc mlg pr0 mme t) (1152 * sd) t mpr (i)))) (g_kne f0_mpr f0_mod (Nat.ne_of_beq_eq_false rfl)) (g_ne (x := (a_mre, eD y 576 (uF (sIts mcf (rCw sd mfx mce) mgm mlc mlg pr0 mme t) (12 * (24 * sd + t)) mre (i)))) (g_kne f0_mre f0_mod (Nat.ne_of_beq_eq_false rfl)) (g_ne (x := (a_mim, eZ y 2304 (bO (rK mcf (rCw sd mfx mce) mgm mlc mlg pr0) (1152 * sd) t mim (i)))) (g_kne f0_mim f0_mod (Nat.ne_of_beq_eq_false rfl)) (f0_mod)))
    refine va_get (D := D) (ci := 8) (v := .int (nI (n))) (C := RX7) (T := TX7) (N := 33) hx hb hts in_RX7 hown hE.1 (gv1 hP f_mod) 0 rfl rfl 1 (by decide) (hts (.fieldLink RX7 98 "BasketryOfficeModel" "items" "I") (by decide +kernel)) (fun _ h9 => h9) rfl dX7_reckons_13 ?_
    refine g_icmp_ge (tgt := 33) hx hb (by omega) (by omega) dX7_reckons_16 (by decide) (fun c_16 => absurd c_16 (by omega)) (fun c_16 => ?_)
    refine lv_aload_n hx hb dX7_reckons_19 rfl (lv_at hl 0 rfl) ?_
    refine lv_iload_n hx hb dX7_reckons_20 rfl (lv_at hl 1 rfl) ?_
    refine lv_iload hx hb dX7_reckons_21 (lv_at hl 4 rfl) ?_
    refine lv_iload_n hx hb dX7_reckons_23 rfl (lv_at hl 2 rfl) ?_
    have f_mpr := g_eq (x := (a_mpr, eD y 2304 (prO (sVal mcf (rCw sd mfx mce) mgm mlc mlg pr0 mme t) (1152 * sd) t mpr (i)))) (g_ne (x := (a_mre, eD y 576 (uF (sIts mcf (rCw sd mfx mce) mgm mlc mlg pr0 mme t) (12 * (24 * sd + t)) mre (i)))) (Ne.symm hdisr.1) (g_ne (x := (a_mim, eZ y 2304 (bO (rK mcf (rCw sd mfx mce) mgm mlc mlg pr0) (1152 * sd) t mim (i)))) (g_kne f0_mim f0_mpr (Nat.ne_of_beq_eq_false rfl)) (f0_mpr)))
    have f_mim := g_ne (x := (a_mpr, eD y 2304 (prO (sVal mcf (rCw sd mfx mce) mgm mlc mlg pr0 mme t) (1152 * sd) t mpr (i)))) (g_kne f0_mpr f0_mim (Nat.ne_of_beq_eq_false rfl)) (g_ne (x := (a_mre, eD y 576 (uF (sIts mcf (rCw sd mfx mce) mgm mlc mlg pr0 mme t) (12 * (24 * sd + t)) mre (i)))) (g_kne f0_mre f0_mim (Nat.ne_of_beq_eq_false rfl)) (g_eq (x := (a_mim, eZ y 2304 (bO (rK mcf (rCw sd mfx mce) mgm mlc mlg pr0) (1152 * sd) t mim (i)))) (f0_mim)))
    have f_mre := g_ne (x := (a_mpr, eD y 2304 (prO (sVal mcf (rCw sd mfx mce) mgm mlc mlg pr0 mme t) (1152 * sd) t mpr (i)))) hdisr.1 (g_eq (x := (a_mre, eD y 576 (uF (sIts mcf (rCw sd mfx mce) mgm mlc mlg pr0 mme t) (12 * (24 * sd + t)) mre (i)))) (g_ne (x := (a_mim, eZ y 2304 (bO (rK mcf (rCw sd mfx mce) mgm mlc mlg pr0) (1152 * sd) t mim (i)))) (g_kne f0_mim f0_mre (Nat.ne_of_beq_eq_false rfl)) (f0_mre)))
    have f_mce := g_ne (x := (a_mpr, eD y 2304 (prO (sVal mcf (rCw sd mfx mce) mgm mlc mlg pr0 mme t) (1152 * sd) t mpr (i)))) (g_kne f0_mpr f0_mce (Nat.ne_of_beq_eq_false rfl)) (g_ne (x := (a_mre, eD y 576 (uF (sIts mcf (rCw sd mfx mce) mgm mlc mlg pr0 mme t) (12 * (24 * sd + t)) mre (i)))) (g_kne f0_mre f0_mce (Nat.ne_of_beq_eq_false rfl)) (g_ne (x := (a_mim, eZ y 2304 (bO (rK mcf (rCw sd mfx mce) mgm mlc mlg pr0) (1152 * sd) t mim (i)))) hdisr.2.2.2.2.2.2.1 (f0_mce)))
    have f_mgm := g_ne (x := (a_mpr, eD y 2304 (prO (sVal mcf (rCw sd mfx mce) mgm mlc mlg pr0 mme t) (1152 * sd) t mpr (i)))) (g_kne f0_mpr f0_mgm (Nat.ne_of_beq_eq_false rfl)) (g_ne (x := (a_mre, eD y 576 (uF (sIts mcf (rCw sd mfx mce) mgm mlc mlg pr0 mme t) (12 * (24 * sd + t)) mre (i)))) (g_kne f0_mre f0_mgm (Nat.ne_of_beq_eq_false rfl)) (g_ne (x := (a_mim, eZ y 2304 (bO (rK mcf (rCw sd mfx mce) mgm mlc mlg pr0) (1152 * sd) t mim (i)))) hdisr.2.2.2.2.2.2.2.1 (f0_mgm)))
    have f_mfx := g_ne (x := (a_mpr, eD y 2304 (prO (sVal mcf (rCw sd mfx mce) mgm mlc mlg pr0 mme t) (1152 * sd) t mpr (i)))) (g_kne f0_mpr f0_mfx (Nat.ne_of_beq_eq_false rfl)) (g_ne (x := (a_mre, eD y 576 (uF (sIts mcf (rCw sd mfx mce) mgm mlc mlg pr0 mme t) (12 * (24 * sd + t)) mre (i)))) (g_kne f0_mre f0_mfx (Nat.ne_of_beq_eq_false rfl)) (g_ne (x := (a_mim, eZ y 2304 (bO (rK mcf (rCw sd mfx mce) mgm mlc mlg pr0) (1152 * sd) t mim (i)))) hdisr.2.2.2.2.2.2.2.2.1 (f0_mfx)))
    have f_mcf := g_ne (x := (a_mpr, eD y 2304 (prO (sVal mcf (rCw sd mfx mce) mgm mlc mlg pr0 mme t) (1152 * sd) t mpr (i)))) (g_kne f0_mpr f0_mcf (Nat.ne_of_beq_eq_false rfl)) (g_ne (x := (a_mre, eD y 576 (uF (sIts mcf (rCw sd mfx mce) mgm mlc mlg pr0 mme t) (12 * (24 * sd + t)) mre (i)))) (g_kne f0_mre f0_mcf (Nat.ne_of_beq_eq_false rfl)) (g_ne (x := (a_mim, eZ y 2304 (bO (rK mcf (rCw sd mfx mce) mgm mlc mlg pr0) (1152 * sd) t mim (i)))) hdisr.2.2.2.2.2.2.2.2.2.1 (f0_mcf)))
    have f_mlc := g_ne (x := (a_mpr, eD y 2304 (prO (sVal mcf (rCw sd mfx mce) mgm mlc mlg pr0 mme t) (1152 * sd) t mpr (i)))) (g_kne f0_mpr f0_mlc (Nat.ne_of_beq_eq_false rfl)) (g_ne (x := (a_mre, eD y 576 (uF (sIts mcf (rCw sd mfx mce) mgm mlc mlg pr0 mme t) (12 * (24 * sd + t)) mre (i)))) (g_kne f0_mre f0_mlc (Nat.ne_of_beq_eq_false rfl)) (g_ne (x := (a_mim, eZ y 2304 (bO (rK mcf (rCw sd mfx mce) mgm mlc mlg pr0) (1152 * sd) t mim (i)))) hdisr.2.2.2.2.2.2.2.2.2.2.1 (f0_mlc)))
    have f_mlg := g_ne (x := (a_mpr, eD y 2304 (prO (sVal mcf (rCw sd mfx mce) mgm mlc mlg pr0 mme t) (1152 * sd) t mpr (i)))) (g_kne f0_mpr f0_mlg (Nat.ne_of_beq_eq_false rfl)) (g_ne (x := (a_mre, eD y 576 (uF (sIts mcf (rCw sd mfx mce) mgm mlc mlg pr0 mme t) (12 * (24 * sd + t)) mre (i)))) (g_kne f0_mre f0_mlg (Nat.ne_of_beq_eq_false rfl)) (g_ne (x := (a_mim, eZ y 2304 (bO (rK mcf (rCw sd mfx mce) mgm mlc mlg pr0) (1152 * sd) t mim (i)))) hdisr.2.2.2.2.2.2.2.2.2.2.2.1 (f0_mlg)))
    have f_mme := g_ne (x := (a_mpr, eD y 2304 (prO (sVal mcf (rCw sd mfx mce) mgm mlc mlg pr0 mme t) (1152 * sd) t mpr (i)))) (g_kne f0_mpr f0_mme (Nat.ne_of_beq_eq_false rfl)) (g_ne (x := (a_mre, eD y 576 (uF (sIts mcf (rCw sd mfx mce) mgm mlc mlg pr0 mme t) (12 * (24 * sd + t)) mre (i)))) (g_kne f0_mre f0_mme (Nat.ne_of_beq_eq_false rfl)) (g_ne (x := (a_mim, eZ y 2304 (bO (rK mcf (rCw sd mfx mce) mgm mlc mlg pr0) (1152 * sd) t mim (i)))) hdisr.2.2.2.2.2.2.2.2.2.2.2.2.1 (f0_mme)))
    refine gc_V_v (As := [.int (nI (t)), .int (nI (i)), .int (nI (sd))]) (rest := []) (c_X7_prices l f_mod f_mpr f_mim f_mre f_mce f_mgm f_mfx f_mcf f_mlc f_mlg f_mme b_mce b_mgm b_mfx b_mlc b_mlg b_mme ht (by omega) hsd hgm hlg hcg (prO_prEq hpr i) rfl (hpos i hj_i) (hn1 i hj_i) ⟨d_0, d_6, d_7, d_8, d_9, d_10, d_11, d_12⟩) ⟨hx, hb, hml, hown, hts⟩ (cwV 3 hts gX7_reckons_X7_prices rfl rfl rfl (by decide +kernel) ⟨Nat.le_of_ble_eq_true rfl, Nat.le_of_ble_eq_true rfl⟩) hE hP hD hS hA _ f_mod rfl rfl rfl rfl hl.1 (Nat.le_of_ble_eq_true rfl) dX7_reckons_24 ⟨Nat.le_of_ble_eq_true rfl, Nat.le_of_ble_eq_true rfl⟩ (fun u_24 H locs hP hD hS q_24 => ?_)
    have hP := g_trP (Eq.trans (g_c (g_c (g_sc (g_kne f0_mpr f0_mim (Nat.ne_of_beq_eq_false rfl)) (g_sc (g_kne f0_mre f0_mim (Nat.ne_of_beq_eq_false rfl)) g_ss)))) (Eq.trans (g_c (g_sc hdisr.1 g_ss)) g_ss)) hP
    have hD := g_trD (Eq.trans (g_c (g_c (g_sc (g_kne f0_mpr f0_mim (Nat.ne_of_beq_eq_false rfl)) (g_sc (g_kne f0_mre f0_mim (Nat.ne_of_beq_eq_false rfl)) g_ss)))) (Eq.trans (g_c (g_sc hdisr.1 g_ss)) g_ss)) hD
    refine lv_iinc (v := nI (i + 1)) (lv' := [(4, .int (nI (i + 1))), (0, .ref a_mod), (1, .int (nI (t))), (2, .int (nI (sd))), (3, .int (nI (24 * sd + t)))]) hx hb dX7_reckons_27 hl (k := 4) rfl (nI_add _ 1) (by decide) rfl (fun ls hl => ?_)
    refine lv_goto (tgt := 10) hx hb dX7_reckons_30 (by decide) ?_
    have hP : gvP D vwCl (((ws.set p_mim (a_mim, eZ y 2304 (bO (rK mcf (rCw sd mfx mce) mgm mlc mlg pr0) (1152 * sd) t mim (i + 1)))).set p_mre (a_mre, eD y 576 (uF (sIts mcf (rCw sd mfx mce) mgm mlc mlg pr0 mme t) (12 * (24 * sd + t)) mre (i + 1)))).set p_mpr (a_mpr, eD y 2304 (prO (sVal mcf (rCw sd mfx mce) mgm mlc mlg pr0 mme t) (1152 * sd) t mpr (i + 1)))) _ := g_trP (rfl) hP
    have hD : gvD A (((ws.set p_mim (a_mim, eZ y 2304 (bO (rK mcf (rCw sd mfx mce) mgm mlc mlg pr0) (1152 * sd) t mim (i + 1)))).set p_mre (a_mre, eD y 576 (uF (sIts mcf (rCw sd mfx mce) mgm mlc mlg pr0 mme t) (12 * (24 * sd + t)) mre (i + 1)))).set p_mpr (a_mpr, eD y 2304 (prO (sVal mcf (rCw sd mfx mce) mgm mlc mlg pr0 mme t) (1152 * sd) t mpr (i + 1)))) := g_trD (rfl) hD
    exact ih_i H locs ls hP hD hS (lv_sub hl [1, 2, 3, 4, 0] rfl)
