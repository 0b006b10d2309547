theorem mBase_s {lc lg : Nat → Nat} {pr : Nat → UInt64} {t i o sd : Nat} (hi : i < 12) (ho : o < 4) (hlg : ∀ k, lg k = 0 → lc k = 0) : mBase lc lg pr t i o sd = sBase lc lg (fun k => pr (1152 * sd + k)) (48 * t + 4 * i + o) := by
  unfold mBase sBase
  by_cases h : t = 0
  · have hk : 48 * t + 4 * i + o < 48 := by omega
    rw [if_pos h, if_pos hk]
  · have e : 48 * t + 4 * i + o - 48 = 48 * (t - 1) + 4 * i + o := by omega
    have hk : ¬ 48 * t + 4 * i + o < 48 := by omega
    rw [if_neg h, if_neg hk, e]
    by_cases g : lc (48 * (t - 1) + 4 * i + o) = 0
    · have g1 : ¬ 0 < lc (48 * (t - 1) + 4 * i + o) := by omega
      rw [if_neg g1, if_pos g]
    · have g1 : 0 < lc (48 * (t - 1) + 4 * i + o) := by omega
      have g2 : ¬ lg (48 * (t - 1) + 4 * i + o) = 0 := fun z => g (hlg _ z)
      rw [if_pos g1, if_neg g]
      unfold sRate
      rw [if_neg g2]
theorem sRel_z {m : Nat} {a b q v : UInt64} : sRel m 0 a b q v = 0 := if_pos rfl
theorem sRel_0 {m n : Nat} {a b q v : UInt64} (hn : n ≠ 0) (hm : m = 0) : sRel m n a b q v = FP.ddiv q (FP.i2d (nI n)) := by unfold sRel; rw [if_neg hn, if_pos hm]
theorem sRel_1 {m n : Nat} {a b q v : UInt64} (hn : n ≠ 0) (hm : m = 1) : sRel m n a b q v = FP.ddiv a b := by unfold sRel; rw [if_neg hn, if_neg (by omega), if_pos hm]
theorem sRel_2 {m n : Nat} {a b q v : UInt64} (hn : n ≠ 0) (h0 : m ≠ 0) (h1 : m ≠ 1) : sRel m n a b q v = FP.ddiv (FP.i2d (nI n)) v := by unfold sRel; rw [if_neg hn, if_neg h0, if_neg h1]
theorem in_c_X7_meanOf_f0_RX7 : ∀ w ∈ wsX70, w ∈ wsX7_meanOf := by decide +kernel
set_option maxHeartbeats 4000000 in
set_option maxRecDepth 100000 in
theorem c_X7_meanOf_f0 (l : Launch) {D : va_G} {y : Nat → Nat} {ws : va_W} {x_mod_0 : Value} {x_mod_1 : Value} {x_mod_2 : Value} {x_mod_4 : Value} {x_mod_5 : Value} {x_mod_6 : Value} {x_mod_7 : Value} {x_mod_11 : Value} {x_mod_14 : Value} {x_mod_15 : Value} {x_mod_16 : Value} {x_mod_19 : Value} {x_mod_20 : Value} {x_mod_21 : Value} {x_mod_22 : Value} {x_mod_23 : Value} {x_mod_24 : Value} {x_mod_25 : Value} {x_mod_26 : Value} {x_mod_27 : Value} {x_mod_28 : Value} {x_mod_29 : Value} {x_mod_30 : Value} {x_mod_31 : Value} {x_mod_32 : Value} {p_mod p_mce p_mgm p_mfx p_mlc p_mlg p_mpr p_mim p_mme a_mod a_mce a_mgm a_mfx a_mlc a_mlg a_mpr a_mim a_mme : Nat} {mce : Nat → Nat} {mgm : Nat → Nat} {mfx : Nat → Nat} {mlc : Nat → Nat} {mlg : Nat → Nat} {mpr : Nat → UInt64} {mim : Nat → Bool} {mme : Nat → Nat} {t i sd : Nat} (f0_mod : ws[p_mod]? = some (a_mod, .inr (8, x_mod_0 :: x_mod_1 :: x_mod_2 :: .ref a_mme :: x_mod_4 :: x_mod_5 :: x_mod_6 :: x_mod_7 :: .ref a_mce :: .ref a_mgm :: .ref a_mfx :: x_mod_11 :: .ref a_mlc :: .ref a_mlg :: x_mod_14 :: x_mod_15 :: x_mod_16 :: .ref a_mpr :: .ref a_mim :: x_mod_19 :: x_mod_20 :: x_mod_21 :: x_mod_22 :: x_mod_23 :: x_mod_24 :: x_mod_25 :: x_mod_26 :: x_mod_27 :: x_mod_28 :: x_mod_29 :: x_mod_30 :: x_mod_31 :: x_mod_32 :: []))) (f0_mce : ws[p_mce]? = some (a_mce, eN y 1152 mce)) (f0_mgm : ws[p_mgm]? = some (a_mgm, eN y 1152 mgm)) (f0_mfx : ws[p_mfx]? = some (a_mfx, eN y 1152 mfx)) (f0_mlc : ws[p_mlc]? = some (a_mlc, eN y 1152 mlc)) (f0_mlg : ws[p_mlg]? = some (a_mlg, eN y 1152 mlg)) (f0_mpr : ws[p_mpr]? = some (a_mpr, eD y 2304 mpr)) (f0_mim : ws[p_mim]? = some (a_mim, eZ y 2304 mim)) (f0_mme : ws[p_mme]? = some (a_mme, eN y 12 mme)) (b_mce : ∀ k, mce k ≤ 100000) (b_mgm : ∀ k, mgm k ≤ 10000) (b_mfx : ∀ k, mfx k ≤ 100000) (b_mlc : ∀ k, mlc k ≤ 100000) (b_mlg : ∀ k, mlg k ≤ 10000) (b_mme : ∀ k, mme k ≤ 2) (ht : t < 24) (hi : i < 12) (hsd : sd ≤ 1) (hgm : ∀ k, mgm k = 0 → mce k = 0 ∧ mfx k = 0) (hlg : ∀ k, mlg k = 0 → mlc k = 0) (hme : mme i = 0) (hm : nnMean (mme i) (fun k => mim (1152 * sd + k)) (mRate (rCw sd mfx mce) mgm) (sBase mlc mlg (fun k => mpr (1152 * sd + k))) (48 * t + 4 * i)) : gMd l yX7_meanOf wsX7_meanOf ({ frames := 2, cells := 0, slots := 0, locals := 47 }) D y [.ref a_mod, .int (nI (t)), .int (nI (i)), .int (nI (sd)), .int (gb (false))] ws (fun r (_ : Unit) => r = sMean (mme i) (fun k => mim (1152 * sd + k)) (mRate (rCw sd mfx mce) mgm) (sBase mlc mlg (fun k => mpr (1152 * sd + k))) (48 * t + 4 * i)) (fun (_ : Unit) => ws) := by
  refine g_met_d (cc := cX7_meanOf) (maxL := 17) (by decide) rfl (Nat.le_of_ble_eq_true rfl) ?_
  intro p e s m below meth c A hx hb hml hr hts hown hnm hlocks hE hP hD hS hA ls hl
  have hown : s.vm.findClass RX7 = some m.cls := hown
  have hl : lv_has ls 17 [(0, .ref a_mod), (1, .int (nI (t))), (2, .int (nI (i))), (3, .int (nI (sd))), (4, .int (gb (false)))] := hl
  have in_RX7 := in_c_X7_meanOf_f0_RX7
  refine lv_iconst (v := nI 0) hx hb dX7_meanOf_0 (by decide) ?_
  refine lv_istore (lv' := [(5, .int (nI (0))), (0, .ref a_mod), (1, .int (nI (t))), (2, .int (nI (i))), (3, .int (nI (sd))), (4, .int (gb (false)))]) hx hb dX7_meanOf_1 hl (by decide) rfl (fun ls hl => ?_)
  refine g_dconst0 hx hb dX7_meanOf_3 ?_
  refine lv_dstore (lv' := [(6, .double 0), (5, .int (nI (0))), (0, .ref a_mod), (1, .int (nI (t))), (2, .int (nI (i))), (3, .int (nI (sd))), (4, .int (gb (false)))]) hx hb dX7_meanOf_4 hl (by decide) rfl (fun ls hl => ?_)
  refine g_dconst0 hx hb dX7_meanOf_6 ?_
  refine lv_dstore (lv' := [(8, .double 0), (6, .double 0), (5, .int (nI (0))), (0, .ref a_mod), (1, .int (nI (t))), (2, .int (nI (i))), (3, .int (nI (sd))), (4, .int (gb (false)))]) hx hb dX7_meanOf_7 hl (by decide) rfl (fun ls hl => ?_)
  refine g_dconst0 hx hb dX7_meanOf_9 ?_
  refine lv_dstore (lv' := [(10, .double 0), (8, .double 0), (6, .double 0), (5, .int (nI (0))), (0, .ref a_mod), (1, .int (nI (t))), (2, .int (nI (i))), (3, .int (nI (sd))), (4, .int (gb (false)))]) hx hb dX7_meanOf_10 hl (by decide) rfl (fun ls hl => ?_)
  refine lv_iconst (v := nI 0) hx hb dX7_meanOf_12 (by decide) ?_
  refine lv_istore (lv' := [(12, .int (nI (0))), (10, .double 0), (8, .double 0), (6, .double 0), (5, .int (nI (0))), (0, .ref a_mod), (1, .int (nI (t))), (2, .int (nI (i))), (3, .int (nI (sd))), (4, .int (gb (false)))]) hx hb dX7_meanOf_13 hl (by decide) rfl (fun ls hl => ?_)
  have hP : gvP D vwCl ws _ := g_trP (rfl) hP
  have hD : gvD A ws := g_trD (rfl) hD
  refine g_for (fun j => ws) (fun j => [(0, .ref a_mod), (1, .int (nI (t))), (2, .int (nI (i))), (3, .int (nI (sd))), (4, .int (gb (false))), (5, .int (nI (mN (fun k => mim (1152 * sd + k)) (48 * t + 4 * i) (j)))), (6, .double (mS (fun k => mim (1152 * sd + k)) (qF (mRate (rCw sd mfx mce) mgm) (sBase mlc mlg (fun k => mpr (1152 * sd + k)))) (48 * t + 4 * i) (j))), (8, .double (mS (fun k => mim (1152 * sd + k)) (mRate (rCw sd mfx mce) mgm) (48 * t + 4 * i) (j))), (10, .double (mS (fun k => mim (1152 * sd + k)) (sBase mlc mlg (fun k => mpr (1152 * sd + k))) (48 * t + 4 * i) (j))), (12, .int (nI (j)))]) (4) (0) (by omega) ?_ ?_ hP hD hS (lv_sub hl [5, 6, 7, 8, 9, 4, 3, 2, 1, 0] rfl)
  · intro H locs ls hP hD hS hl
    have hP : gvP D vwCl ws H := hP
    have hD : gvD A ws := hD
    have hl : lv_has ls 17 [(0, .ref a_mod), (1, .int (nI (t))), (2, .int (nI (i))), (3, .int (nI (sd))), (4, .int (gb (false))), (5, .int (nI (mN (fun k => mim (1152 * sd + k)) (48 * t + 4 * i) (4)))), (6, .double (mS (fun k => mim (1152 * sd + k)) (qF (mRate (rCw sd mfx mce) mgm) (sBase mlc mlg (fun k => mpr (1152 * sd + k)))) (48 * t + 4 * i) (4))), (8, .double (mS (fun k => mim (1152 * sd + k)) (mRate (rCw sd mfx mce) mgm) (48 * t + 4 * i) (4))), (10, .double (mS (fun k => mim (1152 * sd + k)) (sBase mlc mlg (fun k => mpr (1152 * sd + k))) (48 * t + 4 * i) (4))), (12, .int (nI (4)))] := hl
    refine lv_iload hx hb dX7_meanOf_15 (lv_at hl 9 rfl) ?_
    refine lv_iconst (v := nI 4) hx hb dX7_meanOf_17 (by decide) ?_
    refine g_icmp_ge (tgt := 156) hx hb (by omega) (by omega) dX7_meanOf_18 (by decide) (fun c_18 => ?_) (fun c_18 => absurd c_18 (by omega))
    refine lv_iload hx hb dX7_meanOf_156 (lv_at hl 5 rfl) ?_
    refine g_if_ne (tgt := 165) hx hb (by have := mN_le (fun k => mim (1152 * sd + k)) (48 * t + 4 * i) 4; omega) dX7_meanOf_158 (by decide) (fun c_158 => ?_) (fun c_158 => ?_)
    · refine lv_aload_n hx hb dX7_meanOf_165 rfl (lv_at hl 0 rfl) ?_
      refine va_get (D := D) (ci := 8) (v := .ref a_mme) (C := RX7) (T := TX7) (N := 33) hx hb hts in_RX7 hown hE.1 (gv1 hP f0_mod) 0 rfl rfl 3 (by decide) (hts (.fieldLink RX7 13 "BasketryOfficeModel" "mean" "[I") (by decide +kernel)) (fun _ h9 => h9) rfl dX7_meanOf_166 ?_
      refine lv_iload_n hx hb dX7_meanOf_169 rfl (lv_at hl 2 rfl) ?_
      refine g_nald hx hb hE hP _ f0_mme (by omega) (by decide) dX7_meanOf_170 ?_
      have bd_170_1 := b_mme (i)
      refine g_if_ne (tgt := 183) hx hb (by omega) dX7_meanOf_171 (by decide) (fun c_171 => absurd c_171 (by omega)) (fun c_171 => ?_)
      refine lv_dload hx hb dX7_meanOf_174 (lv_at hl 6 rfl) ?_
      refine lv_iload hx hb dX7_meanOf_176 (lv_at hl 5 rfl) ?_
      refine lv_i2d hx hb dX7_meanOf_178 ?_
      refine lv_ddiv hx hb dX7_meanOf_179 ((hm.2 (by omega)).1 hme) ?_
      refine lv_goto (tgt := 207) hx hb dX7_meanOf_180 (by decide) ?_
      refine g_dret hx hb hr hlocks () dX7_meanOf_207 hS hP hD ?_
      exact (sRel_0 (by omega) hme).symm
    · refine g_dconst0 hx hb dX7_meanOf_161 ?_
      refine lv_goto (tgt := 207) hx hb dX7_meanOf_162 (by decide) ?_
      refine g_dret hx hb hr hlocks () dX7_meanOf_207 hS hP hD ?_
      have h0 : mN (fun k => mim (1152 * sd + k)) (48 * t + 4 * i) 4 = 0 := by omega
      unfold sMean
      rw [h0, sRel_z]
  · intro j hj_j ih_j H locs ls hP hD hS hl
    have hP : gvP D vwCl ws H := hP
    have hD : gvD A ws := hD
    have hl : lv_has ls 17 [(0, .ref a_mod), (1, .int (nI (t))), (2, .int (nI (i))), (3, .int (nI (sd))), (4, .int (gb (false))), (5, .int (nI (mN (fun k => mim (1152 * sd + k)) (48 * t + 4 * i) (j)))), (6, .double (mS (fun k => mim (1152 * sd + k)) (qF (mRate (rCw sd mfx mce) mgm) (sBase mlc mlg (fun k => mpr (1152 * sd + k)))) (48 * t + 4 * i) (j))), (8, .double (mS (fun k => mim (1152 * sd + k)) (mRate (rCw sd mfx mce) mgm) (48 * t + 4 * i) (j))), (10, .double (mS (fun k => mim (1152 * sd + k)) (sBase mlc mlg (fun k => mpr (1152 * sd + k))) (48 * t + 4 * i) (j))), (12, .int (nI (j)))] := hl
    refine lv_iload hx hb dX7_meanOf_15 (lv_at hl 9 rfl) ?_
    refine lv_iconst (v := nI 4) hx hb dX7_meanOf_17 (by decide) ?_
    refine g_icmp_ge (tgt := 156) hx hb (by omega) (by omega) dX7_meanOf_18 (by decide) (fun c_18 => absurd c_18 (by omega)) (fun c_18 => ?_)
    refine lv_aload_n hx hb dX7_meanOf_21 rfl (lv_at hl 0 rfl) ?_
    refine va_get (D := D) (ci := 8) (v := .ref a_mim) (C := RX7) (T := TX7) (N := 33) hx hb hts in_RX7 hown hE.1 (gv1 hP f0_mod) 0 rfl rfl 18 (by decide) (hts (.fieldLink RX7 51 "BasketryOfficeModel" "isMatched" "[Z") (by decide +kernel)) (fun _ h9 => h9) rfl dX7_meanOf_22 ?_
    refine lv_sipush (v := nI 1152) hx hb dX7_meanOf_25 (by decide) ?_
    refine lv_iload_n hx hb dX7_meanOf_28 rfl (lv_at hl 3 rfl) ?_
    refine g_imul hx hb dX7_meanOf_29 (pk_mul _ _) ?_
    refine lv_iload_n hx hb dX7_meanOf_30 rfl (lv_at hl 1 rfl) ?_
    refine lv_iload_n hx hb dX7_meanOf_31 rfl (lv_at hl 2 rfl) ?_
    refine lv_iload hx hb dX7_meanOf_32 (lv_at hl 9 rfl) ?_
    refine gc_S_i (As := [.int (nI (t)), .int (nI (i)), .int (nI (j))]) (rest := [.int (nI (1152 * sd)), .ref a_mim]) (c_X7_cell l) ⟨hx, hb, hml, hown, hts⟩ (va_cwS 3 hts gX7_meanOf_X7_cell rfl rfl rfl (by decide +kernel) ⟨Nat.le_of_ble_eq_true rfl, Nat.le_of_ble_eq_true rfl⟩) hE hP hD hS hA rfl rfl hl.1 (Nat.le_of_ble_eq_true rfl) dX7_meanOf_34 ⟨Nat.le_of_ble_eq_true rfl, Nat.le_of_ble_eq_true rfl⟩ (fun r_34 u_34 H locs hP hD hS q_34 => ?_)
    subst q_34
    refine g_iadd hx hb dX7_meanOf_37 (nI_add _ _) ?_
    refine g_zald hx hb hE hP _ f0_mim (by omega) (by decide) dX7_meanOf_38 ?_
    refine g_bif_eq (tgt := 150) hx hb dX7_meanOf_39 (by decide) (fun c_39 => ?_) (fun c_39 => ?_)
    · refine lv_iinc (v := nI (j + 1)) (lv' := [(12, .int (nI (j + 1))), (0, .ref a_mod), (1, .int (nI (t))), (2, .int (nI (i))), (3, .int (nI (sd))), (4, .int (gb (false))), (5, .int (nI (mN (fun k => mim (1152 * sd + k)) (48 * t + 4 * i) (j)))), (6, .double (mS (fun k => mim (1152 * sd + k)) (qF (mRate (rCw sd mfx mce) mgm) (sBase mlc mlg (fun k => mpr (1152 * sd + k)))) (48 * t + 4 * i) (j))), (8, .double (mS (fun k => mim (1152 * sd + k)) (mRate (rCw sd mfx mce) mgm) (48 * t + 4 * i) (j))), (10, .double (mS (fun k => mim (1152 * sd + k)) (sBase mlc mlg (fun k => mpr (1152 * sd + k))) (48 * t + 4 * i) (j)))]) hx hb dX7_meanOf_150 hl (k := 9) rfl (nI_add _ 1) (by decide) rfl (fun ls hl => ?_)
      refine lv_goto (tgt := 15) hx hb dX7_meanOf_153 (by decide) ?_
      have hP : gvP D vwCl ws _ := g_trP (rfl) hP
      have hD : gvD A ws := g_trD (rfl) hD
      exact ih_j H locs ls hP hD hS (lv_sub hl [1, 2, 3, 4, 5, 6, 7, 8, 9, 0] (by have hk : (fun k => mim (1152 * sd + k)) ((48 * t + 4 * i) + j) = false := c_39; rw [mN_f (M := (fun k => mim (1152 * sd + k))) (k0 := (48 * t + 4 * i)) hk, mS_f (M := (fun k => mim (1152 * sd + k))) (k0 := (48 * t + 4 * i)) hk, mS_f (M := (fun k => mim (1152 * sd + k))) (k0 := (48 * t + 4 * i)) hk, mS_f (M := (fun k => mim (1152 * sd + k))) (k0 := (48 * t + 4 * i)) hk]; rfl))
    · refine lv_iload hx hb dX7_meanOf_42 (lv_at hl 4 rfl) ?_
      refine g_bif_eq (tgt := 59) hx hb dX7_meanOf_44 (by decide) (fun c_44 => ?_) (fun c_44 => absurd c_44 (by decide))
      refine lv_aload_n hx hb dX7_meanOf_59 rfl (lv_at hl 0 rfl) ?_
      refine lv_iload_n hx hb dX7_meanOf_60 rfl (lv_at hl 1 rfl) ?_
      refine lv_iload_n hx hb dX7_meanOf_61 rfl (lv_at hl 2 rfl) ?_
      refine lv_iload hx hb dX7_meanOf_62 (lv_at hl 9 rfl) ?_
      refine gc_S_i (As := [.int (nI (t)), .int (nI (i)), .int (nI (j))]) (rest := [.ref a_mod]) (c_X7_cell l) ⟨hx, hb, hml, hown, hts⟩ (va_cwS 3 hts gX7_meanOf_X7_cell rfl rfl rfl (by decide +kernel) ⟨Nat.le_of_ble_eq_true rfl, Nat.le_of_ble_eq_true rfl⟩) hE hP hD hS hA rfl rfl hl.1 (Nat.le_of_ble_eq_true rfl) dX7_meanOf_64 ⟨Nat.le_of_ble_eq_true rfl, Nat.le_of_ble_eq_true rfl⟩ (fun r_64 u_64 H locs hP hD hS q_64 => ?_)
      subst q_64
      refine lv_iload_n hx hb dX7_meanOf_67 rfl (lv_at hl 3 rfl) ?_
      refine gc_V_d (As := [.int (nI (48 * (t) + 4 * (i) + (j))), .int (nI (sd))]) (rest := []) (c_X7_rate l f0_mod f0_mce f0_mgm f0_mfx b_mce b_mgm b_mfx (by omega) hsd (hgm _)) ⟨hx, hb, hml, hown, hts⟩ (cwV 2 hts gX7_meanOf_X7_rate rfl rfl rfl (by decide +kernel) ⟨Nat.le_of_ble_eq_true rfl, Nat.le_of_ble_eq_true rfl⟩) hE hP hD hS hA _ f0_mod rfl rfl rfl rfl hl.1 (Nat.le_of_ble_eq_true rfl) dX7_meanOf_68 ⟨Nat.le_of_ble_eq_true rfl, Nat.le_of_ble_eq_true rfl⟩ (fun r_68 u_68 H locs hP hD hS q_68 => ?_)
      subst q_68
      refine lv_dstore (lv' := [(13, .double (mRate (rCw (sd) mfx mce) mgm (48 * (t) + 4 * (i) + (j)))), (0, .ref a_mod), (1, .int (nI (t))), (2, .int (nI (i))), (3, .int (nI (sd))), (4, .int (gb (false))), (5, .int (nI (mN (fun k => mim (1152 * sd + k)) (48 * t + 4 * i) (j)))), (6, .double (mS (fun k => mim (1152 * sd + k)) (qF (mRate (rCw sd mfx mce) mgm) (sBase mlc mlg (fun k => mpr (1152 * sd + k)))) (48 * t + 4 * i) (j))), (8, .double (mS (fun k => mim (1152 * sd + k)) (mRate (rCw sd mfx mce) mgm) (48 * t + 4 * i) (j))), (10, .double (mS (fun k => mim (1152 * sd + k)) (sBase mlc mlg (fun k => mpr (1152 * sd + k))) (48 * t + 4 * i) (j))), (12, .int (nI (j)))]) hx hb dX7_meanOf_71 hl (by decide) rfl (fun ls hl => ?_)
      refine lv_iload hx hb dX7_meanOf_73 (lv_at hl 5 rfl) ?_
      refine g_bif_eq (tgt := 93) hx hb dX7_meanOf_75 (by decide) (fun c_75 => ?_) (fun c_75 => absurd c_75 (by decide))
      refine lv_aload_n hx hb dX7_meanOf_93 rfl (lv_at hl 1 rfl) ?_
      refine lv_iload_n hx hb dX7_meanOf_94 rfl (lv_at hl 2 rfl) ?_
      refine lv_iload_n hx hb dX7_meanOf_95 rfl (lv_at hl 3 rfl) ?_
      refine lv_iload hx hb dX7_meanOf_96 (lv_at hl 10 rfl) ?_
      refine lv_iload_n hx hb dX7_meanOf_98 rfl (lv_at hl 4 rfl) ?_
      refine gc_V_d (As := [.int (nI (t)), .int (nI (i)), .int (nI (j)), .int (nI (sd))]) (rest := []) (c_X7_base l f0_mod f0_mlc f0_mlg f0_mpr b_mlc b_mlg ht hi hj_j hsd hlg) ⟨hx, hb, hml, hown, hts⟩ (cwV 4 hts gX7_meanOf_X7_base rfl rfl rfl (by decide +kernel) ⟨Nat.le_of_ble_eq_true rfl, Nat.le_of_ble_eq_true rfl⟩) hE hP hD hS hA _ f0_mod rfl rfl rfl rfl hl.1 (Nat.le_of_ble_eq_true rfl) dX7_meanOf_99 ⟨Nat.le_of_ble_eq_true rfl, Nat.le_of_ble_eq_true rfl⟩ (fun r_99 u_99 H locs hP hD hS q_99 => ?_)
      have q9 := q_99.trans (mBase_s hi hj_j hlg)
      subst q9
      refine lv_dstore (lv' := [(15, .double ((sBase mlc mlg (fun k => mpr (1152 * sd + k))) ((48 * t + 4 * i) + j))), (13, .double (mRate (rCw (sd) mfx mce) mgm (48 * (t) + 4 * (i) + (j)))), (0, .ref a_mod), (1, .int (nI (t))), (2, .int (nI (i))), (3, .int (nI (sd))), (4, .int (gb (false))), (5, .int (nI (mN (fun k => mim (1152 * sd + k)) (48 * t + 4 * i) (j)))), (6, .double (mS (fun k => mim (1152 * sd + k)) (qF (mRate (rCw sd mfx mce) mgm) (sBase mlc mlg (fun k => mpr (1152 * sd + k)))) (48 * t + 4 * i) (j))), (8, .double (mS (fun k => mim (1152 * sd + k)) (mRate (rCw sd mfx mce) mgm) (48 * t + 4 * i) (j))), (10, .double (mS (fun k => mim (1152 * sd + k)) (sBase mlc mlg (fun k => mpr (1152 * sd + k))) (48 * t + 4 * i) (j))), (12, .int (nI (j)))]) hx hb dX7_meanOf_102 hl (by decide) rfl (fun ls hl => ?_)
      refine lv_iinc (v := nI (mN (fun k => mim (1152 * sd + k)) (48 * t + 4 * i) (j) + 1)) (lv' := [(5, .int (nI (mN (fun k => mim (1152 * sd + k)) (48 * t + 4 * i) (j) + 1))), (15, .double ((sBase mlc mlg (fun k => mpr (1152 * sd + k))) ((48 * t + 4 * i) + j))), (13, .double (mRate (rCw (sd) mfx mce) mgm (48 * (t) + 4 * (i) + (j)))), (0, .ref a_mod), (1, .int (nI (t))), (2, .int (nI (i))), (3, .int (nI (sd))), (4, .int (gb (false))), (6, .double (mS (fun k => mim (1152 * sd + k)) (qF (mRate (rCw sd mfx mce) mgm) (sBase mlc mlg (fun k => mpr (1152 * sd + k)))) (48 * t + 4 * i) (j))), (8, .double (mS (fun k => mim (1152 * sd + k)) (mRate (rCw sd mfx mce) mgm) (48 * t + 4 * i) (j))), (10, .double (mS (fun k => mim (1152 * sd + k)) (sBase mlc mlg (fun k => mpr (1152 * sd + k))) (48 * t + 4 * i) (j))), (12, .int (nI (j)))]) hx hb dX7_meanOf_104 hl (k := 7) rfl (nI_add _ 1) (by decide) rfl (fun ls hl => ?_)
      refine lv_dload hx hb dX7_meanOf_107 (lv_at hl 9 rfl) ?_
      refine lv_dload hx hb dX7_meanOf_109 (lv_at hl 2 rfl) ?_
      refine lv_dadd hx hb dX7_meanOf_111 (hm.1 j hj_j c_39).1 ?_
      refine lv_dstore (lv' := [(8, .double (FP.dadd (mS (fun k => mim (1152 * sd + k)) (mRate (rCw sd mfx mce) mgm) (48 * t + 4 * i) (j)) (mRate (rCw (sd) mfx mce) mgm (48 * (t) + 4 * (i) + (j))))), (5, .int (nI (mN (fun k => mim (1152 * sd + k)) (48 * t + 4 * i) (j) + 1))), (15, .double ((sBase mlc mlg (fun k => mpr (1152 * sd + k))) ((48 * t + 4 * i) + j))), (13, .double (mRate (rCw (sd) mfx mce) mgm (48 * (t) + 4 * (i) + (j)))), (0, .ref a_mod), (1, .int (nI (t))), (2, .int (nI (i))), (3, .int (nI (sd))), (4, .int (gb (false))), (6, .double (mS (fun k => mim (1152 * sd + k)) (qF (mRate (rCw sd mfx mce) mgm) (sBase mlc mlg (fun k => mpr (1152 * sd + k)))) (48 * t + 4 * i) (j))), (10, .double (mS (fun k => mim (1152 * sd + k)) (sBase mlc mlg (fun k => mpr (1152 * sd + k))) (48 * t + 4 * i) (j))), (12, .int (nI (j)))]) hx hb dX7_meanOf_112 hl (by decide) rfl (fun ls hl => ?_)
      refine lv_dload hx hb dX7_meanOf_114 (lv_at hl 10 rfl) ?_
      refine lv_dload hx hb dX7_meanOf_116 (lv_at hl 2 rfl) ?_
      refine lv_dadd hx hb dX7_meanOf_118 (hm.1 j hj_j c_39).2.1 ?_
      refine lv_dstore (lv' := [(10, .double (FP.dadd (mS (fun k => mim (1152 * sd + k)) (sBase mlc mlg (fun k => mpr (1152 * sd + k))) (48 * t + 4 * i) (j)) ((sBase mlc mlg (fun k => mpr (1152 * sd + k))) ((48 * t + 4 * i) + j)))), (8, .double (FP.dadd (mS (fun k => mim (1152 * sd + k)) (mRate (rCw sd mfx mce) mgm) (48 * t + 4 * i) (j)) (mRate (rCw (sd) mfx mce) mgm (48 * (t) + 4 * (i) + (j))))), (5, .int (nI (mN (fun k => mim (1152 * sd + k)) (48 * t + 4 * i) (j) + 1))), (15, .double ((sBase mlc mlg (fun k => mpr (1152 * sd + k))) ((48 * t + 4 * i) + j))), (13, .double (mRate (rCw (sd) mfx mce) mgm (48 * (t) + 4 * (i) + (j)))), (0, .ref a_mod), (1, .int (nI (t))), (2, .int (nI (i))), (3, .int (nI (sd))), (4, .int (gb (false))), (6, .double (mS (fun k => mim (1152 * sd + k)) (qF (mRate (rCw sd mfx mce) mgm) (sBase mlc mlg (fun k => mpr (1152 * sd + k)))) (48 * t + 4 * i) (j))), (12, .int (nI (j)))]) hx hb dX7_meanOf_119 hl (by decide) rfl (fun ls hl => ?_)
      refine lv_dload hx hb dX7_meanOf_121 (lv_at hl 10 rfl) ?_
      refine lv_aload_n hx hb dX7_meanOf_123 rfl (lv_at hl 5 rfl) ?_
      refine va_get (D := D) (ci := 8) (v := .ref a_mme) (C := RX7) (T := TX7) (N := 33) hx hb hts in_RX7 hown hE.1 (gv1 hP f0_mod) 0 rfl rfl 3 (by decide) (hts (.fieldLink RX7 13 "BasketryOfficeModel" "mean" "[I") (by decide +kernel)) (fun _ h9 => h9) rfl dX7_meanOf_124 ?_
      refine lv_iload_n hx hb dX7_meanOf_127 rfl (lv_at hl 7 rfl) ?_
      refine g_nald hx hb hE hP _ f0_mme (by omega) (by decide) dX7_meanOf_128 ?_
      have bd_128_2 := b_mme (i)
      refine g_if_ne (tgt := 140) hx hb (by omega) dX7_meanOf_129 (by decide) (fun c_129 => absurd c_129 (by omega)) (fun c_129 => ?_)
      refine lv_dload hx hb dX7_meanOf_132 (lv_at hl 4 rfl) ?_
      refine lv_dload hx hb dX7_meanOf_134 (lv_at hl 3 rfl) ?_
      refine lv_ddiv hx hb dX7_meanOf_136 (hm.1 j hj_j c_39).2.2.1 ?_
      refine lv_goto (tgt := 147) hx hb dX7_meanOf_137 (by decide) ?_
      refine lv_dadd hx hb dX7_meanOf_147 (hm.1 j hj_j c_39).2.2.2.1 ?_
      refine lv_dstore (lv' := [(6, .double (FP.dadd (mS (fun k => mim (1152 * sd + k)) (qF (mRate (rCw sd mfx mce) mgm) (sBase mlc mlg (fun k => mpr (1152 * sd + k)))) (48 * t + 4 * i) (j)) (FP.ddiv (mRate (rCw (sd) mfx mce) mgm (48 * (t) + 4 * (i) + (j))) ((sBase mlc mlg (fun k => mpr (1152 * sd + k))) ((48 * t + 4 * i) + j))))), (10, .double (FP.dadd (mS (fun k => mim (1152 * sd + k)) (sBase mlc mlg (fun k => mpr (1152 * sd + k))) (48 * t + 4 * i) (j)) ((sBase mlc mlg (fun k => mpr (1152 * sd + k))) ((48 * t + 4 * i) + j)))), (8, .double (FP.dadd (mS (fun k => mim (1152 * sd + k)) (mRate (rCw sd mfx mce) mgm) (48 * t + 4 * i) (j)) (mRate (rCw (sd) mfx mce) mgm (48 * (t) + 4 * (i) + (j))))), (5, .int (nI (mN (fun k => mim (1152 * sd + k)) (48 * t + 4 * i) (j) + 1))), (15, .double ((sBase mlc mlg (fun k => mpr (1152 * sd + k))) ((48 * t + 4 * i) + j))), (13, .double (mRate (rCw (sd) mfx mce) mgm (48 * (t) + 4 * (i) + (j)))), (0, .ref a_mod), (1, .int (nI (t))), (2, .int (nI (i))), (3, .int (nI (sd))), (4, .int (gb (false))), (12, .int (nI (j)))]) hx hb dX7_meanOf_148 hl (by decide) rfl (fun ls hl => ?_)
      refine lv_iinc (v := nI (j + 1)) (lv' := [(12, .int (nI (j + 1))), (6, .double (FP.dadd (mS (fun k => mim (1152 * sd + k)) (qF (mRate (rCw sd mfx mce) mgm) (sBase mlc mlg (fun k => mpr (1152 * sd + k)))) (48 * t + 4 * i) (j)) (FP.ddiv (mRate (rCw (sd) mfx mce) mgm (48 * (t) + 4 * (i) + (j))) ((sBase mlc mlg (fun k => mpr (1152 * sd + k))) ((48 * t + 4 * i) + j))))), (10, .double (FP.dadd (mS (fun k => mim (1152 * sd + k)) (sBase mlc mlg (fun k => mpr (1152 * sd + k))) (48 * t + 4 * i) (j)) ((sBase mlc mlg (fun k => mpr (1152 * sd + k))) ((48 * t + 4 * i) + j)))), (8, .double (FP.dadd (mS (fun k => mim (1152 * sd + k)) (mRate (rCw sd mfx mce) mgm) (48 * t + 4 * i) (j)) (mRate (rCw (sd) mfx mce) mgm (48 * (t) + 4 * (i) + (j))))), (5, .int (nI (mN (fun k => mim (1152 * sd + k)) (48 * t + 4 * i) (j) + 1))), (15, .double ((sBase mlc mlg (fun k => mpr (1152 * sd + k))) ((48 * t + 4 * i) + j))), (13, .double (mRate (rCw (sd) mfx mce) mgm (48 * (t) + 4 * (i) + (j)))), (0, .ref a_mod), (1, .int (nI (t))), (2, .int (nI (i))), (3, .int (nI (sd))), (4, .int (gb (false)))]) hx hb dX7_meanOf_150 hl (k := 11) rfl (nI_add _ 1) (by decide) rfl (fun ls hl => ?_)
      refine lv_goto (tgt := 15) hx hb dX7_meanOf_153 (by decide) ?_
      have hP : gvP D vwCl ws _ := g_trP (rfl) hP
      have hD : gvD A ws := g_trD (rfl) hD
      exact ih_j H locs ls hP hD hS (lv_sub hl [7, 8, 9, 10, 11, 4, 1, 3, 2, 0] (by have hk : (fun k => mim (1152 * sd + k)) ((48 * t + 4 * i) + j) = true := c_39; rw [mN_t (M := (fun k => mim (1152 * sd + k))) (k0 := (48 * t + 4 * i)) hk, mS_t (M := (fun k => mim (1152 * sd + k))) (k0 := (48 * t + 4 * i)) hk, mS_t (M := (fun k => mim (1152 * sd + k))) (k0 := (48 * t + 4 * i)) hk, mS_t (M := (fun k => mim (1152 * sd + k))) (k0 := (48 * t + 4 * i)) hk]; rfl))

theorem in_c_X7_meanOf_f1_RX7 : ∀ w ∈ wsX70, w ∈ wsX7_meanOf := by decide +kernel
set_option maxHeartbeats 4000000 in
set_option maxRecDepth 100000 in
theorem c_X7_meanOf_f1 (l : Launch) {D : va_G} {y : Nat → Nat} {ws : va_W} {x_mod_0 : Value} {x_mod_1 : Value} {x_mod_2 : Value} {x_mod_4 : Value} {x_mod_5 : Value} {x_mod_6 : Value} {x_mod_7 : Value} {x_mod_11 : Value} {x_mod_14 : Value} {x_mod_15 : Value} {x_mod_16 : Value} {x_mod_19 : Value} {x_mod_20 : Value} {x_mod_21 : Value} {x_mod_22 : Value} {x_mod_23 : Value} {x_mod_24 : Value} {x_mod_25 : Value} {x_mod_26 : Value} {x_mod_27 : Value} {x_mod_28 : Value} {x_mod_29 : Value} {x_mod_30 : Value} {x_mod_31 : Value} {x_mod_32 : Value} {p_mod p_mce p_mgm p_mfx p_mlc p_mlg p_mpr p_mim p_mme a_mod a_mce a_mgm a_mfx a_mlc a_mlg a_mpr a_mim a_mme : Nat} {mce : Nat → Nat} {mgm : Nat → Nat} {mfx : Nat → Nat} {mlc : Nat → Nat} {mlg : Nat → Nat} {mpr : Nat → UInt64} {mim : Nat → Bool} {mme : Nat → Nat} {t i sd : Nat} (f0_mod : ws[p_mod]? = some (a_mod, .inr (8, x_mod_0 :: x_mod_1 :: x_mod_2 :: .ref a_mme :: x_mod_4 :: x_mod_5 :: x_mod_6 :: x_mod_7 :: .ref a_mce :: .ref a_mgm :: .ref a_mfx :: x_mod_11 :: .ref a_mlc :: .ref a_mlg :: x_mod_14 :: x_mod_15 :: x_mod_16 :: .ref a_mpr :: .ref a_mim :: x_mod_19 :: x_mod_20 :: x_mod_21 :: x_mod_22 :: x_mod_23 :: x_mod_24 :: x_mod_25 :: x_mod_26 :: x_mod_27 :: x_mod_28 :: x_mod_29 :: x_mod_30 :: x_mod_31 :: x_mod_32 :: []))) (f0_mce : ws[p_mce]? = some (a_mce, eN y 1152 mce)) (f0_mgm : ws[p_mgm]? = some (a_mgm, eN y 1152 mgm)) (f0_mfx : ws[p_mfx]? = some (a_mfx, eN y 1152 mfx)) (f0_mlc : ws[p_mlc]? = some (a_mlc, eN y 1152 mlc)) (f0_mlg : ws[p_mlg]? = some (a_mlg, eN y 1152 mlg)) (f0_mpr : ws[p_mpr]? = some (a_mpr, eD y 2304 mpr)) (f0_mim : ws[p_mim]? = some (a_mim, eZ y 2304 mim)) (f0_mme : ws[p_mme]? = some (a_mme, eN y 12 mme)) (b_mce : ∀ k, mce k ≤ 100000) (b_mgm : ∀ k, mgm k ≤ 10000) (b_mfx : ∀ k, mfx k ≤ 100000) (b_mlc : ∀ k, mlc k ≤ 100000) (b_mlg : ∀ k, mlg k ≤ 10000) (b_mme : ∀ k, mme k ≤ 2) (ht : t < 24) (hi : i < 12) (hsd : sd ≤ 1) (hgm : ∀ k, mgm k = 0 → mce k = 0 ∧ mfx k = 0) (hlg : ∀ k, mlg k = 0 → mlc k = 0) (hme : mme i ≠ 0) (hm : nnMean (mme i) (fun k => mim (1152 * sd + k)) (mRate (rCw sd mfx mce) mgm) (sBase mlc mlg (fun k => mpr (1152 * sd + k))) (48 * t + 4 * i)) : gMd l yX7_meanOf wsX7_meanOf ({ frames := 2, cells := 0, slots := 0, locals := 47 }) D y [.ref a_mod, .int (nI (t)), .int (nI (i)), .int (nI (sd)), .int (gb (false))] ws (fun r (_ : Unit) => r = sMean (mme i) (fun k => mim (1152 * sd + k)) (mRate (rCw sd mfx mce) mgm) (sBase mlc mlg (fun k => mpr (1152 * sd + k))) (48 * t + 4 * i)) (fun (_ : Unit) => ws) := by
  refine g_met_d (cc := cX7_meanOf) (maxL := 17) (by decide) rfl (Nat.le_of_ble_eq_true rfl) ?_
  intro p e s m below meth c A hx hb hml hr hts hown hnm hlocks hE hP hD hS hA ls hl
  have hown : s.vm.findClass RX7 = some m.cls := hown
  have hl : lv_has ls 17 [(0, .ref a_mod), (1, .int (nI (t))), (2, .int (nI (i))), (3, .int (nI (sd))), (4, .int (gb (false)))] := hl
  have in_RX7 := in_c_X7_meanOf_f1_RX7
  refine lv_iconst (v := nI 0) hx hb dX7_meanOf_0 (by decide) ?_
  refine lv_istore (lv' := [(5, .int (nI (0))), (0, .ref a_mod), (1, .int (nI (t))), (2, .int (nI (i))), (3, .int (nI (sd))), (4, .int (gb (false)))]) hx hb dX7_meanOf_1 hl (by decide) rfl (fun ls hl => ?_)
  refine g_dconst0 hx hb dX7_meanOf_3 ?_
  refine lv_dstore (lv' := [(6, .double 0), (5, .int (nI (0))), (0, .ref a_mod), (1, .int (nI (t))), (2, .int (nI (i))), (3, .int (nI (sd))), (4, .int (gb (false)))]) hx hb dX7_meanOf_4 hl (by decide) rfl (fun ls hl => ?_)
  refine g_dconst0 hx hb dX7_meanOf_6 ?_
  refine lv_dstore (lv' := [(8, .double 0), (6, .double 0), (5, .int (nI (0))), (0, .ref a_mod), (1, .int (nI (t))), (2, .int (nI (i))), (3, .int (nI (sd))), (4, .int (gb (false)))]) hx hb dX7_meanOf_7 hl (by decide) rfl (fun ls hl => ?_)
  refine g_dconst0 hx hb dX7_meanOf_9 ?_
  refine lv_dstore (lv' := [(10, .double 0), (8, .double 0), (6, .double 0), (5, .int (nI (0))), (0, .ref a_mod), (1, .int (nI (t))), (2, .int (nI (i))), (3, .int (nI (sd))), (4, .int (gb (false)))]) hx hb dX7_meanOf_10 hl (by decide) rfl (fun ls hl => ?_)
  refine lv_iconst (v := nI 0) hx hb dX7_meanOf_12 (by decide) ?_
  refine lv_istore (lv' := [(12, .int (nI (0))), (10, .double 0), (8, .double 0), (6, .double 0), (5, .int (nI (0))), (0, .ref a_mod), (1, .int (nI (t))), (2, .int (nI (i))), (3, .int (nI (sd))), (4, .int (gb (false)))]) hx hb dX7_meanOf_13 hl (by decide) rfl (fun ls hl => ?_)
  have hP : gvP D vwCl ws _ := g_trP (rfl) hP
  have hD : gvD A ws := g_trD (rfl) hD
  refine g_for (fun j => ws) (fun j => [(0, .ref a_mod), (1, .int (nI (t))), (2, .int (nI (i))), (3, .int (nI (sd))), (4, .int (gb (false))), (5, .int (nI (mN (fun k => mim (1152 * sd + k)) (48 * t + 4 * i) (j)))), (6, .double (mS (fun k => mim (1152 * sd + k)) (vF (mRate (rCw sd mfx mce) mgm) (sBase mlc mlg (fun k => mpr (1152 * sd + k)))) (48 * t + 4 * i) (j))), (8, .double (mS (fun k => mim (1152 * sd + k)) (mRate (rCw sd mfx mce) mgm) (48 * t + 4 * i) (j))), (10, .double (mS (fun k => mim (1152 * sd + k)) (sBase mlc mlg (fun k => mpr (1152 * sd + k))) (48 * t + 4 * i) (j))), (12, .int (nI (j)))]) (4) (0) (by omega) ?_ ?_ hP hD hS (lv_sub hl [5, 6, 7, 8, 9, 4, 3, 2, 1, 0] rfl)
  · intro H locs ls hP hD hS hl
    have hP : gvP D vwCl ws H := hP
    have hD : gvD A ws := hD
    have hl : lv_has ls 17 [(0, .ref a_mod), (1, .int (nI (t))), (2, .int (nI (i))), (3, .int (nI (sd))), (4, .int (gb (false))), (5, .int (nI (mN (fun k => mim (1152 * sd + k)) (48 * t + 4 * i) (4)))), (6, .double (mS (fun k => mim (1152 * sd + k)) (vF (mRate (rCw sd mfx mce) mgm) (sBase mlc mlg (fun k => mpr (1152 * sd + k)))) (48 * t + 4 * i) (4))), (8, .double (mS (fun k => mim (1152 * sd + k)) (mRate (rCw sd mfx mce) mgm) (48 * t + 4 * i) (4))), (10, .double (mS (fun k => mim (1152 * sd + k)) (sBase mlc mlg (fun k => mpr (1152 * sd + k))) (48 * t + 4 * i) (4))), (12, .int (nI (4)))] := hl
    refine lv_iload hx hb dX7_meanOf_15 (lv_at hl 9 rfl) ?_
    refine lv_iconst (v := nI 4) hx hb dX7_meanOf_17 (by decide) ?_
    refine g_icmp_ge (tgt := 156) hx hb (by omega) (by omega) dX7_meanOf_18 (by decide) (fun c_18 => ?_) (fun c_18 => absurd c_18 (by omega))
    refine lv_iload hx hb dX7_meanOf_156 (lv_at hl 5 rfl) ?_
    refine g_if_ne (tgt := 165) hx hb (by have := mN_le (fun k => mim (1152 * sd + k)) (48 * t + 4 * i) 4; omega) dX7_meanOf_158 (by decide) (fun c_158 => ?_) (fun c_158 => ?_)
    · refine lv_aload_n hx hb dX7_meanOf_165 rfl (lv_at hl 0 rfl) ?_
      refine va_get (D := D) (ci := 8) (v := .ref a_mme) (C := RX7) (T := TX7) (N := 33) hx hb hts in_RX7 hown hE.1 (gv1 hP f0_mod) 0 rfl rfl 3 (by decide) (hts (.fieldLink RX7 13 "BasketryOfficeModel" "mean" "[I") (by decide +kernel)) (fun _ h9 => h9) rfl dX7_meanOf_166 ?_
      refine lv_iload_n hx hb dX7_meanOf_169 rfl (lv_at hl 2 rfl) ?_
      refine g_nald hx hb hE hP _ f0_mme (by omega) (by decide) dX7_meanOf_170 ?_
      have bd_170_1 := b_mme (i)
      refine g_if_ne (tgt := 183) hx hb (by omega) dX7_meanOf_171 (by decide) (fun c_171 => ?_) (fun c_171 => absurd c_171 (by omega))
      refine lv_aload_n hx hb dX7_meanOf_183 rfl (lv_at hl 0 rfl) ?_
      refine va_get (D := D) (ci := 8) (v := .ref a_mme) (C := RX7) (T := TX7) (N := 33) hx hb hts in_RX7 hown hE.1 (gv1 hP f0_mod) 0 rfl rfl 3 (by decide) (hts (.fieldLink RX7 13 "BasketryOfficeModel" "mean" "[I") (by decide +kernel)) (fun _ h9 => h9) rfl dX7_meanOf_184 ?_
      refine lv_iload_n hx hb dX7_meanOf_187 rfl (lv_at hl 2 rfl) ?_
      refine g_nald hx hb hE hP _ f0_mme (by omega) (by decide) dX7_meanOf_188 ?_
      have bd_188_2 := b_mme (i)
      refine lv_iconst (v := nI 1) hx hb dX7_meanOf_189 (by decide) ?_
      refine g_icmp_ne (tgt := 201) hx hb (by omega) (by omega) dX7_meanOf_190 (by decide) (fun c_190 => ?_) (fun c_190 => ?_)
      · refine lv_iload hx hb dX7_meanOf_201 (lv_at hl 5 rfl) ?_
        refine lv_i2d hx hb dX7_meanOf_203 ?_
        refine lv_dload hx hb dX7_meanOf_204 (lv_at hl 6 rfl) ?_
        refine lv_ddiv hx hb dX7_meanOf_206 ((hm.2 (by omega)).2.2 hme (by omega)) ?_
        refine g_dret hx hb hr hlocks () dX7_meanOf_207 hS hP hD ?_
        exact (sRel_2 (by omega) hme (by omega)).symm
      · refine lv_dload hx hb dX7_meanOf_193 (lv_at hl 7 rfl) ?_
        refine lv_dload hx hb dX7_meanOf_195 (lv_at hl 8 rfl) ?_
        refine lv_ddiv hx hb dX7_meanOf_197 ((hm.2 (by omega)).2.1 (by omega)) ?_
        refine lv_goto (tgt := 207) hx hb dX7_meanOf_198 (by decide) ?_
        refine g_dret hx hb hr hlocks () dX7_meanOf_207 hS hP hD ?_
        exact (sRel_1 (by omega) (by omega)).symm
    · refine g_dconst0 hx hb dX7_meanOf_161 ?_
      refine lv_goto (tgt := 207) hx hb dX7_meanOf_162 (by decide) ?_
      refine g_dret hx hb hr hlocks () dX7_meanOf_207 hS hP hD ?_
      have h0 : mN (fun k => mim (1152 * sd + k)) (48 * t + 4 * i) 4 = 0 := by omega
      unfold sMean
      rw [h0, sRel_z]
  · intro j hj_j ih_j H locs ls hP hD hS hl
    have hP : gvP D vwCl ws H := hP
    have hD : gvD A ws := hD
    have hl : lv_has ls 17 [(0, .ref a_mod), (1, .int (nI (t))), (2, .int (nI (i))), (3, .int (nI (sd))), (4, .int (gb (false))), (5, .int (nI (mN (fun k => mim (1152 * sd + k)) (48 * t + 4 * i) (j)))), (6, .double (mS (fun k => mim (1152 * sd + k)) (vF (mRate (rCw sd mfx mce) mgm) (sBase mlc mlg (fun k => mpr (1152 * sd + k)))) (48 * t + 4 * i) (j))), (8, .double (mS (fun k => mim (1152 * sd + k)) (mRate (rCw sd mfx mce) mgm) (48 * t + 4 * i) (j))), (10, .double (mS (fun k => mim (1152 * sd + k)) (sBase mlc mlg (fun k => mpr (1152 * sd + k))) (48 * t + 4 * i) (j))), (12, .int (nI (j)))] := hl
    refine lv_iload hx hb dX7_meanOf_15 (lv_at hl 9 rfl) ?_
    refine lv_iconst (v := nI 4) hx hb dX7_meanOf_17 (by decide) ?_
    refine g_icmp_ge (tgt := 156) hx hb (by omega) (by omega) dX7_meanOf_18 (by decide) (fun c_18 => absurd c_18 (by omega)) (fun c_18 => ?_)
    refine lv_aload_n hx hb dX7_meanOf_21 rfl (lv_at hl 0 rfl) ?_
    refine va_get (D := D) (ci := 8) (v := .ref a_mim) (C := RX7) (T := TX7) (N := 33) hx hb hts in_RX7 hown hE.1 (gv1 hP f0_mod) 0 rfl rfl 18 (by decide) (hts (.fieldLink RX7 51 "BasketryOfficeModel" "isMatched" "[Z") (by decide +kernel)) (fun _ h9 => h9) rfl dX7_meanOf_22 ?_
    refine lv_sipush (v := nI 1152) hx hb dX7_meanOf_25 (by decide) ?_
    refine lv_iload_n hx hb dX7_meanOf_28 rfl (lv_at hl 3 rfl) ?_
    refine g_imul hx hb dX7_meanOf_29 (pk_mul _ _) ?_
    refine lv_iload_n hx hb dX7_meanOf_30 rfl (lv_at hl 1 rfl) ?_
    refine lv_iload_n hx hb dX7_meanOf_31 rfl (lv_at hl 2 rfl) ?_
    refine lv_iload hx hb dX7_meanOf_32 (lv_at hl 9 rfl) ?_
    refine gc_S_i (As := [.int (nI (t)), .int (nI (i)), .int (nI (j))]) (rest := [.int (nI (1152 * sd)), .ref a_mim]) (c_X7_cell l) ⟨hx, hb, hml, hown, hts⟩ (va_cwS 3 hts gX7_meanOf_X7_cell rfl rfl rfl (by decide +kernel) ⟨Nat.le_of_ble_eq_true rfl, Nat.le_of_ble_eq_true rfl⟩) hE hP hD hS hA rfl rfl hl.1 (Nat.le_of_ble_eq_true rfl) dX7_meanOf_34 ⟨Nat.le_of_ble_eq_true rfl, Nat.le_of_ble_eq_true rfl⟩ (fun r_34 u_34 H locs hP hD hS q_34 => ?_)
    subst q_34
    refine g_iadd hx hb dX7_meanOf_37 (nI_add _ _) ?_
    refine g_zald hx hb hE hP _ f0_mim (by omega) (by decide) dX7_meanOf_38 ?_
    refine g_bif_eq (tgt := 150) hx hb dX7_meanOf_39 (by decide) (fun c_39 => ?_) (fun c_39 => ?_)
    · refine lv_iinc (v := nI (j + 1)) (lv' := [(12, .int (nI (j + 1))), (0, .ref a_mod), (1, .int (nI (t))), (2, .int (nI (i))), (3, .int (nI (sd))), (4, .int (gb (false))), (5, .int (nI (mN (fun k => mim (1152 * sd + k)) (48 * t + 4 * i) (j)))), (6, .double (mS (fun k => mim (1152 * sd + k)) (vF (mRate (rCw sd mfx mce) mgm) (sBase mlc mlg (fun k => mpr (1152 * sd + k)))) (48 * t + 4 * i) (j))), (8, .double (mS (fun k => mim (1152 * sd + k)) (mRate (rCw sd mfx mce) mgm) (48 * t + 4 * i) (j))), (10, .double (mS (fun k => mim (1152 * sd + k)) (sBase mlc mlg (fun k => mpr (1152 * sd + k))) (48 * t + 4 * i) (j)))]) hx hb dX7_meanOf_150 hl (k := 9) rfl (nI_add _ 1) (by decide) rfl (fun ls hl => ?_)
      refine lv_goto (tgt := 15) hx hb dX7_meanOf_153 (by decide) ?_
      have hP : gvP D vwCl ws _ := g_trP (rfl) hP
      have hD : gvD A ws := g_trD (rfl) hD
      exact ih_j H locs ls hP hD hS (lv_sub hl [1, 2, 3, 4, 5, 6, 7, 8, 9, 0] (by have hk : (fun k => mim (1152 * sd + k)) ((48 * t + 4 * i) + j) = false := c_39; rw [mN_f (M := (fun k => mim (1152 * sd + k))) (k0 := (48 * t + 4 * i)) hk, mS_f (M := (fun k => mim (1152 * sd + k))) (k0 := (48 * t + 4 * i)) hk, mS_f (M := (fun k => mim (1152 * sd + k))) (k0 := (48 * t + 4 * i)) hk, mS_f (M := (fun k => mim (1152 * sd + k))) (k0 := (48 * t + 4 * i)) hk]; rfl))
    · refine lv_iload hx hb dX7_meanOf_42 (lv_at hl 4 rfl) ?_
      refine g_bif_eq (tgt := 59) hx hb dX7_meanOf_44 (by decide) (fun c_44 => ?_) (fun c_44 => absurd c_44 (by decide))
      refine lv_aload_n hx hb dX7_meanOf_59 rfl (lv_at hl 0 rfl) ?_
      refine lv_iload_n hx hb dX7_meanOf_60 rfl (lv_at hl 1 rfl) ?_
      refine lv_iload_n hx hb dX7_meanOf_61 rfl (lv_at hl 2 rfl) ?_
      refine lv_iload hx hb dX7_meanOf_62 (lv_at hl 9 rfl) ?_
      refine gc_S_i (As := [.int (nI (t)), .int (nI (i)), .int (nI (j))]) (rest := [.ref a_mod]) (c_X7_cell l) ⟨hx, hb, hml, hown, hts⟩ (va_cwS 3 hts gX7_meanOf_X7_cell rfl rfl rfl (by decide +kernel) ⟨Nat.le_of_ble_eq_true rfl, Nat.le_of_ble_eq_true rfl⟩) hE hP hD hS hA rfl rfl hl.1 (Nat.le_of_ble_eq_true rfl) dX7_meanOf_64 ⟨Nat.le_of_ble_eq_true rfl, Nat.le_of_ble_eq_true rfl⟩ (fun r_64 u_64 H locs hP hD hS q_64 => ?_)
      subst q_64
      refine lv_iload_n hx hb dX7_meanOf_67 rfl (lv_at hl 3 rfl) ?_
      refine gc_V_d (As := [.int (nI (48 * (t) + 4 * (i) + (j))), .int (nI (sd))]) (rest := []) (c_X7_rate l f0_mod f0_mce f0_mgm f0_mfx b_mce b_mgm b_mfx (by omega) hsd (hgm _)) ⟨hx, hb, hml, hown, hts⟩ (cwV 2 hts gX7_meanOf_X7_rate rfl rfl rfl (by decide +kernel) ⟨Nat.le_of_ble_eq_true rfl, Nat.le_of_ble_eq_true rfl⟩) hE hP hD hS hA _ f0_mod rfl rfl rfl rfl hl.1 (Nat.le_of_ble_eq_true rfl) dX7_meanOf_68 ⟨Nat.le_of_ble_eq_true rfl, Nat.le_of_ble_eq_true rfl⟩ (fun r_68 u_68 H locs hP hD hS q_68 => ?_)
      subst q_68
      refine lv_dstore (lv' := [(13, .double (mRate (rCw (sd) mfx mce) mgm (48 * (t) + 4 * (i) + (j)))), (0, .ref a_mod), (1, .int (nI (t))), (2, .int (nI (i))), (3, .int (nI (sd))), (4, .int (gb (false))), (5, .int (nI (mN (fun k => mim (1152 * sd + k)) (48 * t + 4 * i) (j)))), (6, .double (mS (fun k => mim (1152 * sd + k)) (vF (mRate (rCw sd mfx mce) mgm) (sBase mlc mlg (fun k => mpr (1152 * sd + k)))) (48 * t + 4 * i) (j))), (8, .double (mS (fun k => mim (1152 * sd + k)) (mRate (rCw sd mfx mce) mgm) (48 * t + 4 * i) (j))), (10, .double (mS (fun k => mim (1152 * sd + k)) (sBase mlc mlg (fun k => mpr (1152 * sd + k))) (48 * t + 4 * i) (j))), (12, .int (nI (j)))]) hx hb dX7_meanOf_71 hl (by decide) rfl (fun ls hl => ?_)
      refine lv_iload hx hb dX7_meanOf_73 (lv_at hl 5 rfl) ?_
      refine g_bif_eq (tgt := 93) hx hb dX7_meanOf_75 (by decide) (fun c_75 => ?_) (fun c_75 => absurd c_75 (by decide))
      refine lv_aload_n hx hb dX7_meanOf_93 rfl (lv_at hl 1 rfl) ?_
      refine lv_iload_n hx hb dX7_meanOf_94 rfl (lv_at hl 2 rfl) ?_
      refine lv_iload_n hx hb dX7_meanOf_95 rfl (lv_at hl 3 rfl) ?_
      refine lv_iload hx hb dX7_meanOf_96 (lv_at hl 10 rfl) ?_
      refine lv_iload_n hx hb dX7_meanOf_98 rfl (lv_at hl 4 rfl) ?_
      refine gc_V_d (As := [.int (nI (t)), .int (nI (i)), .int (nI (j)), .int (nI (sd))]) (rest := []) (c_X7_base l f0_mod f0_mlc f0_mlg f0_mpr b_mlc b_mlg ht hi hj_j hsd hlg) ⟨hx, hb, hml, hown, hts⟩ (cwV 4 hts gX7_meanOf_X7_base rfl rfl rfl (by decide +kernel) ⟨Nat.le_of_ble_eq_true rfl, Nat.le_of_ble_eq_true rfl⟩) hE hP hD hS hA _ f0_mod rfl rfl rfl rfl hl.1 (Nat.le_of_ble_eq_true rfl) dX7_meanOf_99 ⟨Nat.le_of_ble_eq_true rfl, Nat.le_of_ble_eq_true rfl⟩ (fun r_99 u_99 H locs hP hD hS q_99 => ?_)
      have q9 := q_99.trans (mBase_s hi hj_j hlg)
      subst q9
      refine lv_dstore (lv' := [(15, .double ((sBase mlc mlg (fun k => mpr (1152 * sd + k))) ((48 * t + 4 * i) + j))), (13, .double (mRate (rCw (sd) mfx mce) mgm (48 * (t) + 4 * (i) + (j)))), (0, .ref a_mod), (1, .int (nI (t))), (2, .int (nI (i))), (3, .int (nI (sd))), (4, .int (gb (false))), (5, .int (nI (mN (fun k => mim (1152 * sd + k)) (48 * t + 4 * i) (j)))), (6, .double (mS (fun k => mim (1152 * sd + k)) (vF (mRate (rCw sd mfx mce) mgm) (sBase mlc mlg (fun k => mpr (1152 * sd + k)))) (48 * t + 4 * i) (j))), (8, .double (mS (fun k => mim (1152 * sd + k)) (mRate (rCw sd mfx mce) mgm) (48 * t + 4 * i) (j))), (10, .double (mS (fun k => mim (1152 * sd + k)) (sBase mlc mlg (fun k => mpr (1152 * sd + k))) (48 * t + 4 * i) (j))), (12, .int (nI (j)))]) hx hb dX7_meanOf_102 hl (by decide) rfl (fun ls hl => ?_)
      refine lv_iinc (v := nI (mN (fun k => mim (1152 * sd + k)) (48 * t + 4 * i) (j) + 1)) (lv' := [(5, .int (nI (mN (fun k => mim (1152 * sd + k)) (48 * t + 4 * i) (j) + 1))), (15, .double ((sBase mlc mlg (fun k => mpr (1152 * sd + k))) ((48 * t + 4 * i) + j))), (13, .double (mRate (rCw (sd) mfx mce) mgm (48 * (t) + 4 * (i) + (j)))), (0, .ref a_mod), (1, .int (nI (t))), (2, .int (nI (i))), (3, .int (nI (sd))), (4, .int (gb (false))), (6, .double (mS (fun k => mim (1152 * sd + k)) (vF (mRate (rCw sd mfx mce) mgm) (sBase mlc mlg (fun k => mpr (1152 * sd + k)))) (48 * t + 4 * i) (j))), (8, .double (mS (fun k => mim (1152 * sd + k)) (mRate (rCw sd mfx mce) mgm) (48 * t + 4 * i) (j))), (10, .double (mS (fun k => mim (1152 * sd + k)) (sBase mlc mlg (fun k => mpr (1152 * sd + k))) (48 * t + 4 * i) (j))), (12, .int (nI (j)))]) hx hb dX7_meanOf_104 hl (k := 7) rfl (nI_add _ 1) (by decide) rfl (fun ls hl => ?_)
      refine lv_dload hx hb dX7_meanOf_107 (lv_at hl 9 rfl) ?_
      refine lv_dload hx hb dX7_meanOf_109 (lv_at hl 2 rfl) ?_
      refine lv_dadd hx hb dX7_meanOf_111 (hm.1 j hj_j c_39).1 ?_
      refine lv_dstore (lv' := [(8, .double (FP.dadd (mS (fun k => mim (1152 * sd + k)) (mRate (rCw sd mfx mce) mgm) (48 * t + 4 * i) (j)) (mRate (rCw (sd) mfx mce) mgm (48 * (t) + 4 * (i) + (j))))), (5, .int (nI (mN (fun k => mim (1152 * sd + k)) (48 * t + 4 * i) (j) + 1))), (15, .double ((sBase mlc mlg (fun k => mpr (1152 * sd + k))) ((48 * t + 4 * i) + j))), (13, .double (mRate (rCw (sd) mfx mce) mgm (48 * (t) + 4 * (i) + (j)))), (0, .ref a_mod), (1, .int (nI (t))), (2, .int (nI (i))), (3, .int (nI (sd))), (4, .int (gb (false))), (6, .double (mS (fun k => mim (1152 * sd + k)) (vF (mRate (rCw sd mfx mce) mgm) (sBase mlc mlg (fun k => mpr (1152 * sd + k)))) (48 * t + 4 * i) (j))), (10, .double (mS (fun k => mim (1152 * sd + k)) (sBase mlc mlg (fun k => mpr (1152 * sd + k))) (48 * t + 4 * i) (j))), (12, .int (nI (j)))]) hx hb dX7_meanOf_112 hl (by decide) rfl (fun ls hl => ?_)
      refine lv_dload hx hb dX7_meanOf_114 (lv_at hl 10 rfl) ?_
      refine lv_dload hx hb dX7_meanOf_116 (lv_at hl 2 rfl) ?_
      refine lv_dadd hx hb dX7_meanOf_118 (hm.1 j hj_j c_39).2.1 ?_
      refine lv_dstore (lv' := [(10, .double (FP.dadd (mS (fun k => mim (1152 * sd + k)) (sBase mlc mlg (fun k => mpr (1152 * sd + k))) (48 * t + 4 * i) (j)) ((sBase mlc mlg (fun k => mpr (1152 * sd + k))) ((48 * t + 4 * i) + j)))), (8, .double (FP.dadd (mS (fun k => mim (1152 * sd + k)) (mRate (rCw sd mfx mce) mgm) (48 * t + 4 * i) (j)) (mRate (rCw (sd) mfx mce) mgm (48 * (t) + 4 * (i) + (j))))), (5, .int (nI (mN (fun k => mim (1152 * sd + k)) (48 * t + 4 * i) (j) + 1))), (15, .double ((sBase mlc mlg (fun k => mpr (1152 * sd + k))) ((48 * t + 4 * i) + j))), (13, .double (mRate (rCw (sd) mfx mce) mgm (48 * (t) + 4 * (i) + (j)))), (0, .ref a_mod), (1, .int (nI (t))), (2, .int (nI (i))), (3, .int (nI (sd))), (4, .int (gb (false))), (6, .double (mS (fun k => mim (1152 * sd + k)) (vF (mRate (rCw sd mfx mce) mgm) (sBase mlc mlg (fun k => mpr (1152 * sd + k)))) (48 * t + 4 * i) (j))), (12, .int (nI (j)))]) hx hb dX7_meanOf_119 hl (by decide) rfl (fun ls hl => ?_)
      refine lv_dload hx hb dX7_meanOf_121 (lv_at hl 10 rfl) ?_
      refine lv_aload_n hx hb dX7_meanOf_123 rfl (lv_at hl 5 rfl) ?_
      refine va_get (D := D) (ci := 8) (v := .ref a_mme) (C := RX7) (T := TX7) (N := 33) hx hb hts in_RX7 hown hE.1 (gv1 hP f0_mod) 0 rfl rfl 3 (by decide) (hts (.fieldLink RX7 13 "BasketryOfficeModel" "mean" "[I") (by decide +kernel)) (fun _ h9 => h9) rfl dX7_meanOf_124 ?_
      refine lv_iload_n hx hb dX7_meanOf_127 rfl (lv_at hl 7 rfl) ?_
      refine g_nald hx hb hE hP _ f0_mme (by omega) (by decide) dX7_meanOf_128 ?_
      have bd_128_3 := b_mme (i)
      refine g_if_ne (tgt := 140) hx hb (by omega) dX7_meanOf_129 (by decide) (fun c_129 => ?_) (fun c_129 => absurd c_129 (by omega))
      refine lv_dconst1 hx hb dX7_meanOf_140 ?_
      refine lv_dload hx hb dX7_meanOf_141 (lv_at hl 4 rfl) ?_
      refine lv_dload hx hb dX7_meanOf_143 (lv_at hl 3 rfl) ?_
      refine lv_ddiv hx hb dX7_meanOf_145 (hm.1 j hj_j c_39).2.2.1 ?_
      refine lv_ddiv hx hb dX7_meanOf_146 (hm.1 j hj_j c_39).2.2.2.2.1 ?_
      refine lv_dadd hx hb dX7_meanOf_147 (hm.1 j hj_j c_39).2.2.2.2.2 ?_
      refine lv_dstore (lv' := [(6, .double (FP.dadd (mS (fun k => mim (1152 * sd + k)) (vF (mRate (rCw sd mfx mce) mgm) (sBase mlc mlg (fun k => mpr (1152 * sd + k)))) (48 * t + 4 * i) (j)) (FP.ddiv (FP.dconst1) (FP.ddiv (mRate (rCw (sd) mfx mce) mgm (48 * (t) + 4 * (i) + (j))) ((sBase mlc mlg (fun k => mpr (1152 * sd + k))) ((48 * t + 4 * i) + j)))))), (10, .double (FP.dadd (mS (fun k => mim (1152 * sd + k)) (sBase mlc mlg (fun k => mpr (1152 * sd + k))) (48 * t + 4 * i) (j)) ((sBase mlc mlg (fun k => mpr (1152 * sd + k))) ((48 * t + 4 * i) + j)))), (8, .double (FP.dadd (mS (fun k => mim (1152 * sd + k)) (mRate (rCw sd mfx mce) mgm) (48 * t + 4 * i) (j)) (mRate (rCw (sd) mfx mce) mgm (48 * (t) + 4 * (i) + (j))))), (5, .int (nI (mN (fun k => mim (1152 * sd + k)) (48 * t + 4 * i) (j) + 1))), (15, .double ((sBase mlc mlg (fun k => mpr (1152 * sd + k))) ((48 * t + 4 * i) + j))), (13, .double (mRate (rCw (sd) mfx mce) mgm (48 * (t) + 4 * (i) + (j)))), (0, .ref a_mod), (1, .int (nI (t))), (2, .int (nI (i))), (3, .int (nI (sd))), (4, .int (gb (false))), (12, .int (nI (j)))]) hx hb dX7_meanOf_148 hl (by decide) rfl (fun ls hl => ?_)
      refine lv_iinc (v := nI (j + 1)) (lv' := [(12, .int (nI (j + 1))), (6, .double (FP.dadd (mS (fun k => mim (1152 * sd + k)) (vF (mRate (rCw sd mfx mce) mgm) (sBase mlc mlg (fun k => mpr (1152 * sd + k)))) (48 * t + 4 * i) (j)) (FP.ddiv (FP.dconst1) (FP.ddiv (mRate (rCw (sd) mfx mce) mgm (48 * (t) + 4 * (i) + (j))) ((sBase mlc mlg (fun k => mpr (1152 * sd + k))) ((48 * t + 4 * i) + j)))))), (10, .double (FP.dadd (mS (fun k => mim (1152 * sd + k)) (sBase mlc mlg (fun k => mpr (1152 * sd + k))) (48 * t + 4 * i) (j)) ((sBase mlc mlg (fun k => mpr (1152 * sd + k))) ((48 * t + 4 * i) + j)))), (8, .double (FP.dadd (mS (fun k => mim (1152 * sd + k)) (mRate (rCw sd mfx mce) mgm) (48 * t + 4 * i) (j)) (mRate (rCw (sd) mfx mce) mgm (48 * (t) + 4 * (i) + (j))))), (5, .int (nI (mN (fun k => mim (1152 * sd + k)) (48 * t + 4 * i) (j) + 1))), (15, .double ((sBase mlc mlg (fun k => mpr (1152 * sd + k))) ((48 * t + 4 * i) + j))), (13, .double (mRate (rCw (sd) mfx mce) mgm (48 * (t) + 4 * (i) + (j)))), (0, .ref a_mod), (1, .int (nI (t))), (2, .int (nI (i))), (3, .int (nI (sd))), (4, .int (gb (false)))]) hx hb dX7_meanOf_150 hl (k := 11) rfl (nI_add _ 1) (by decide) rfl (fun ls hl => ?_)
      refine lv_goto (tgt := 15) hx hb dX7_meanOf_153 (by decide) ?_
      have hP : gvP D vwCl ws _ := g_trP (rfl) hP
      have hD : gvD A ws := g_trD (rfl) hD
      exact ih_j H locs ls hP hD hS (lv_sub hl [7, 8, 9, 10, 11, 4, 1, 3, 2, 0] (by have hk : (fun k => mim (1152 * sd + k)) ((48 * t + 4 * i) + j) = true := c_39; rw [mN_t (M := (fun k => mim (1152 * sd + k))) (k0 := (48 * t + 4 * i)) hk, mS_t (M := (fun k => mim (1152 * sd + k))) (k0 := (48 * t + 4 * i)) hk, mS_t (M := (fun k => mim (1152 * sd + k))) (k0 := (48 * t + 4 * i)) hk, mS_t (M := (fun k => mim (1152 * sd + k))) (k0 := (48 * t + 4 * i)) hk]; rfl))

theorem in_c_X7_meanOf_t0_RX7 : ∀ w ∈ wsX70, w ∈ wsX7_meanOf := by decide +kernel
set_option maxHeartbeats 4000000 in
set_option maxRecDepth 100000 in
theorem c_X7_meanOf_t0 (l : Launch) {D : va_G} {y : Nat → Nat} {ws : va_W} {x_mod_0 : Value} {x_mod_1 : Value} {x_mod_2 : Value} {x_mod_4 : Value} {x_mod_5 : Value} {x_mod_6 : Value} {x_mod_7 : Value} {x_mod_11 : Value} {x_mod_14 : Value} {x_mod_15 : Value} {x_mod_16 : Value} {x_mod_19 : Value} {x_mod_20 : Value} {x_mod_21 : Value} {x_mod_22 : Value} {x_mod_23 : Value} {x_mod_24 : Value} {x_mod_25 : Value} {x_mod_26 : Value} {x_mod_27 : Value} {x_mod_28 : Value} {x_mod_29 : Value} {x_mod_30 : Value} {x_mod_31 : Value} {x_mod_32 : Value} {p_mod p_mce p_mgm p_mfx p_mlc p_mlg p_mpr p_mim p_mme a_mod a_mce a_mgm a_mfx a_mlc a_mlg a_mpr a_mim a_mme : Nat} {mce : Nat → Nat} {mgm : Nat → Nat} {mfx : Nat → Nat} {mlc : Nat → Nat} {mlg : Nat → Nat} {mpr : Nat → UInt64} {mim : Nat → Bool} {mme : Nat → Nat} {t i sd : Nat} (f0_mod : ws[p_mod]? = some (a_mod, .inr (8, x_mod_0 :: x_mod_1 :: x_mod_2 :: .ref a_mme :: x_mod_4 :: x_mod_5 :: x_mod_6 :: x_mod_7 :: .ref a_mce :: .ref a_mgm :: .ref a_mfx :: x_mod_11 :: .ref a_mlc :: .ref a_mlg :: x_mod_14 :: x_mod_15 :: x_mod_16 :: .ref a_mpr :: .ref a_mim :: x_mod_19 :: x_mod_20 :: x_mod_21 :: x_mod_22 :: x_mod_23 :: x_mod_24 :: x_mod_25 :: x_mod_26 :: x_mod_27 :: x_mod_28 :: x_mod_29 :: x_mod_30 :: x_mod_31 :: x_mod_32 :: []))) (f0_mce : ws[p_mce]? = some (a_mce, eN y 1152 mce)) (f0_mgm : ws[p_mgm]? = some (a_mgm, eN y 1152 mgm)) (f0_mfx : ws[p_mfx]? = some (a_mfx, eN y 1152 mfx)) (f0_mlc : ws[p_mlc]? = some (a_mlc, eN y 1152 mlc)) (f0_mlg : ws[p_mlg]? = some (a_mlg, eN y 1152 mlg)) (f0_mpr : ws[p_mpr]? = some (a_mpr, eD y 2304 mpr)) (f0_mim : ws[p_mim]? = some (a_mim, eZ y 2304 mim)) (f0_mme : ws[p_mme]? = some (a_mme, eN y 12 mme)) (b_mce : ∀ k, mce k ≤ 100000) (b_mgm : ∀ k, mgm k ≤ 10000) (b_mfx : ∀ k, mfx k ≤ 100000) (b_mlc : ∀ k, mlc k ≤ 100000) (b_mlg : ∀ k, mlg k ≤ 10000) (b_mme : ∀ k, mme k ≤ 2) (ht : t < 24) (hi : i < 12) (hsd : sd ≤ 1) (hgm : ∀ k, mgm k = 0 → mce k = 0 ∧ mfx k = 0) (hlg : ∀ k, mlg k = 0 → mlc k = 0) (hme : mme i = 0) (hm : nnMean (mme i) (fun k => mim (1152 * sd + k)) (sBase mlc mlg (fun k => mpr (1152 * sd + k))) (mRate (rCw sd mfx mce) mgm) (48 * t + 4 * i)) : gMd l yX7_meanOf wsX7_meanOf ({ frames := 2, cells := 0, slots := 0, locals := 47 }) D y [.ref a_mod, .int (nI (t)), .int (nI (i)), .int (nI (sd)), .int (gb (true))] ws (fun r (_ : Unit) => r = sMean (mme i) (fun k => mim (1152 * sd + k)) (sBase mlc mlg (fun k => mpr (1152 * sd + k))) (mRate (rCw sd mfx mce) mgm) (48 * t + 4 * i)) (fun (_ : Unit) => ws) := by
  refine g_met_d (cc := cX7_meanOf) (maxL := 17) (by decide) rfl (Nat.le_of_ble_eq_true rfl) ?_
  intro p e s m below meth c A hx hb hml hr hts hown hnm hlocks hE hP hD hS hA ls hl
  have hown : s.vm.findClass RX7 = some m.cls := hown
  have hl : lv_has ls 17 [(0, .ref a_mod), (1, .int (nI (t))), (2, .int (nI (i))), (3, .int (nI (sd))), (4, .int (gb (true)))] := hl
  have in_RX7 := in_c_X7_meanOf_t0_RX7
  refine lv_iconst (v := nI 0) hx hb dX7_meanOf_0 (by decide) ?_
  refine lv_istore (lv' := [(5, .int (nI (0))), (0, .ref a_mod), (1, .int (nI (t))), (2, .int (nI (i))), (3, .int (nI (sd))), (4, .int (gb (true)))]) hx hb dX7_meanOf_1 hl (by decide) rfl (fun ls hl => ?_)
  refine g_dconst0 hx hb dX7_meanOf_3 ?_
  refine lv_dstore (lv' := [(6, .double 0), (5, .int (nI (0))), (0, .ref a_mod), (1, .int (nI (t))), (2, .int (nI (i))), (3, .int (nI (sd))), (4, .int (gb (true)))]) hx hb dX7_meanOf_4 hl (by decide) rfl (fun ls hl => ?_)
  refine g_dconst0 hx hb dX7_meanOf_6 ?_
  refine lv_dstore (lv' := [(8, .double 0), (6, .double 0), (5, .int (nI (0))), (0, .ref a_mod), (1, .int (nI (t))), (2, .int (nI (i))), (3, .int (nI (sd))), (4, .int (gb (true)))]) hx hb dX7_meanOf_7 hl (by decide) rfl (fun ls hl => ?_)
  refine g_dconst0 hx hb dX7_meanOf_9 ?_
  refine lv_dstore (lv' := [(10, .double 0), (8, .double 0), (6, .double 0), (5, .int (nI (0))), (0, .ref a_mod), (1, .int (nI (t))), (2, .int (nI (i))), (3, .int (nI (sd))), (4, .int (gb (true)))]) hx hb dX7_meanOf_10 hl (by decide) rfl (fun ls hl => ?_)
  refine lv_iconst (v := nI 0) hx hb dX7_meanOf_12 (by decide) ?_
  refine lv_istore (lv' := [(12, .int (nI (0))), (10, .double 0), (8, .double 0), (6, .double 0), (5, .int (nI (0))), (0, .ref a_mod), (1, .int (nI (t))), (2, .int (nI (i))), (3, .int (nI (sd))), (4, .int (gb (true)))]) hx hb dX7_meanOf_13 hl (by decide) rfl (fun ls hl => ?_)
  have hP : gvP D vwCl ws _ := g_trP (rfl) hP
  have hD : gvD A ws := g_trD (rfl) hD
  refine g_for (fun j => ws) (fun j => [(0, .ref a_mod), (1, .int (nI (t))), (2, .int (nI (i))), (3, .int (nI (sd))), (4, .int (gb (true))), (5, .int (nI (mN (fun k => mim (1152 * sd + k)) (48 * t + 4 * i) (j)))), (6, .double (mS (fun k => mim (1152 * sd + k)) (qF (sBase mlc mlg (fun k => mpr (1152 * sd + k))) (mRate (rCw sd mfx mce) mgm)) (48 * t + 4 * i) (j))), (8, .double (mS (fun k => mim (1152 * sd + k)) (sBase mlc mlg (fun k => mpr (1152 * sd + k))) (48 * t + 4 * i) (j))), (10, .double (mS (fun k => mim (1152 * sd + k)) (mRate (rCw sd mfx mce) mgm) (48 * t + 4 * i) (j))), (12, .int (nI (j)))]) (4) (0) (by omega) ?_ ?_ hP hD hS (lv_sub hl [5, 6, 7, 8, 9, 4, 3, 2, 1, 0] rfl)
  · intro H locs ls hP hD hS hl
    have hP : gvP D vwCl ws H := hP
    have hD : gvD A ws := hD
    have hl : lv_has ls 17 [(0, .ref a_mod), (1, .int (nI (t))), (2, .int (nI (i))), (3, .int (nI (sd))), (4, .int (gb (true))), (5, .int (nI (mN (fun k => mim (1152 * sd + k)) (48 * t + 4 * i) (4)))), (6, .double (mS (fun k => mim (1152 * sd + k)) (qF (sBase mlc mlg (fun k => mpr (1152 * sd + k))) (mRate (rCw sd mfx mce) mgm)) (48 * t + 4 * i) (4))), (8, .double (mS (fun k => mim (1152 * sd + k)) (sBase mlc mlg (fun k => mpr (1152 * sd + k))) (48 * t + 4 * i) (4))), (10, .double (mS (fun k => mim (1152 * sd + k)) (mRate (rCw sd mfx mce) mgm) (48 * t + 4 * i) (4))), (12, .int (nI (4)))] := hl
    refine lv_iload hx hb dX7_meanOf_15 (lv_at hl 9 rfl) ?_
    refine lv_iconst (v := nI 4) hx hb dX7_meanOf_17 (by decide) ?_
    refine g_icmp_ge (tgt := 156) hx hb (by omega) (by omega) dX7_meanOf_18 (by decide) (fun c_18 => ?_) (fun c_18 => absurd c_18 (by omega))
    refine lv_iload hx hb dX7_meanOf_156 (lv_at hl 5 rfl) ?_
    refine g_if_ne (tgt := 165) hx hb (by have := mN_le (fun k => mim (1152 * sd + k)) (48 * t + 4 * i) 4; omega) dX7_meanOf_158 (by decide) (fun c_158 => ?_) (fun c_158 => ?_)
    · refine lv_aload_n hx hb dX7_meanOf_165 rfl (lv_at hl 0 rfl) ?_
      refine va_get (D := D) (ci := 8) (v := .ref a_mme) (C := RX7) (T := TX7) (N := 33) hx hb hts in_RX7 hown hE.1 (gv1 hP f0_mod) 0 rfl rfl 3 (by decide) (hts (.fieldLink RX7 13 "BasketryOfficeModel" "mean" "[I") (by decide +kernel)) (fun _ h9 => h9) rfl dX7_meanOf_166 ?_
      refine lv_iload_n hx hb dX7_meanOf_169 rfl (lv_at hl 2 rfl) ?_
      refine g_nald hx hb hE hP _ f0_mme (by omega) (by decide) dX7_meanOf_170 ?_
      have bd_170_1 := b_mme (i)
      refine g_if_ne (tgt := 183) hx hb (by omega) dX7_meanOf_171 (by decide) (fun c_171 => absurd c_171 (by omega)) (fun c_171 => ?_)
      refine lv_dload hx hb dX7_meanOf_174 (lv_at hl 6 rfl) ?_
      refine lv_iload hx hb dX7_meanOf_176 (lv_at hl 5 rfl) ?_
      refine lv_i2d hx hb dX7_meanOf_178 ?_
      refine lv_ddiv hx hb dX7_meanOf_179 ((hm.2 (by omega)).1 hme) ?_
      refine lv_goto (tgt := 207) hx hb dX7_meanOf_180 (by decide) ?_
      refine g_dret hx hb hr hlocks () dX7_meanOf_207 hS hP hD ?_
      exact (sRel_0 (by omega) hme).symm
    · refine g_dconst0 hx hb dX7_meanOf_161 ?_
      refine lv_goto (tgt := 207) hx hb dX7_meanOf_162 (by decide) ?_
      refine g_dret hx hb hr hlocks () dX7_meanOf_207 hS hP hD ?_
      have h0 : mN (fun k => mim (1152 * sd + k)) (48 * t + 4 * i) 4 = 0 := by omega
      unfold sMean
      rw [h0, sRel_z]
  · intro j hj_j ih_j H locs ls hP hD hS hl
    have hP : gvP D vwCl ws H := hP
    have hD : gvD A ws := hD
    have hl : lv_has ls 17 [(0, .ref a_mod), (1, .int (nI (t))), (2, .int (nI (i))), (3, .int (nI (sd))), (4, .int (gb (true))), (5, .int (nI (mN (fun k => mim (1152 * sd + k)) (48 * t + 4 * i) (j)))), (6, .double (mS (fun k => mim (1152 * sd + k)) (qF (sBase mlc mlg (fun k => mpr (1152 * sd + k))) (mRate (rCw sd mfx mce) mgm)) (48 * t + 4 * i) (j))), (8, .double (mS (fun k => mim (1152 * sd + k)) (sBase mlc mlg (fun k => mpr (1152 * sd + k))) (48 * t + 4 * i) (j))), (10, .double (mS (fun k => mim (1152 * sd + k)) (mRate (rCw sd mfx mce) mgm) (48 * t + 4 * i) (j))), (12, .int (nI (j)))] := hl
    refine lv_iload hx hb dX7_meanOf_15 (lv_at hl 9 rfl) ?_
    refine lv_iconst (v := nI 4) hx hb dX7_meanOf_17 (by decide) ?_
    refine g_icmp_ge (tgt := 156) hx hb (by omega) (by omega) dX7_meanOf_18 (by decide) (fun c_18 => absurd c_18 (by omega)) (fun c_18 => ?_)
    refine lv_aload_n hx hb dX7_meanOf_21 rfl (lv_at hl 0 rfl) ?_
    refine va_get (D := D) (ci := 8) (v := .ref a_mim) (C := RX7) (T := TX7) (N := 33) hx hb hts in_RX7 hown hE.1 (gv1 hP f0_mod) 0 rfl rfl 18 (by decide) (hts (.fieldLink RX7 51 "BasketryOfficeModel" "isMatched" "[Z") (by decide +kernel)) (fun _ h9 => h9) rfl dX7_meanOf_22 ?_
    refine lv_sipush (v := nI 1152) hx hb dX7_meanOf_25 (by decide) ?_
    refine lv_iload_n hx hb dX7_meanOf_28 rfl (lv_at hl 3 rfl) ?_
    refine g_imul hx hb dX7_meanOf_29 (pk_mul _ _) ?_
    refine lv_iload_n hx hb dX7_meanOf_30 rfl (lv_at hl 1 rfl) ?_
    refine lv_iload_n hx hb dX7_meanOf_31 rfl (lv_at hl 2 rfl) ?_
    refine lv_iload hx hb dX7_meanOf_32 (lv_at hl 9 rfl) ?_
    refine gc_S_i (As := [.int (nI (t)), .int (nI (i)), .int (nI (j))]) (rest := [.int (nI (1152 * sd)), .ref a_mim]) (c_X7_cell l) ⟨hx, hb, hml, hown, hts⟩ (va_cwS 3 hts gX7_meanOf_X7_cell rfl rfl rfl (by decide +kernel) ⟨Nat.le_of_ble_eq_true rfl, Nat.le_of_ble_eq_true rfl⟩) hE hP hD hS hA rfl rfl hl.1 (Nat.le_of_ble_eq_true rfl) dX7_meanOf_34 ⟨Nat.le_of_ble_eq_true rfl, Nat.le_of_ble_eq_true rfl⟩ (fun r_34 u_34 H locs hP hD hS q_34 => ?_)
    subst q_34
    refine g_iadd hx hb dX7_meanOf_37 (nI_add _ _) ?_
    refine g_zald hx hb hE hP _ f0_mim (by omega) (by decide) dX7_meanOf_38 ?_
    refine g_bif_eq (tgt := 150) hx hb dX7_meanOf_39 (by decide) (fun c_39 => ?_) (fun c_39 => ?_)
    · refine lv_iinc (v := nI (j + 1)) (lv' := [(12, .int (nI (j + 1))), (0, .ref a_mod), (1, .int (nI (t))), (2, .int (nI (i))), (3, .int (nI (sd))), (4, .int (gb (true))), (5, .int (nI (mN (fun k => mim (1152 * sd + k)) (48 * t + 4 * i) (j)))), (6, .double (mS (fun k => mim (1152 * sd + k)) (qF (sBase mlc mlg (fun k => mpr (1152 * sd + k))) (mRate (rCw sd mfx mce) mgm)) (48 * t + 4 * i) (j))), (8, .double (mS (fun k => mim (1152 * sd + k)) (sBase mlc mlg (fun k => mpr (1152 * sd + k))) (48 * t + 4 * i) (j))), (10, .double (mS (fun k => mim (1152 * sd + k)) (mRate (rCw sd mfx mce) mgm) (48 * t + 4 * i) (j)))]) hx hb dX7_meanOf_150 hl (k := 9) rfl (nI_add _ 1) (by decide) rfl (fun ls hl => ?_)
      refine lv_goto (tgt := 15) hx hb dX7_meanOf_153 (by decide) ?_
      have hP : gvP D vwCl ws _ := g_trP (rfl) hP
      have hD : gvD A ws := g_trD (rfl) hD
      exact ih_j H locs ls hP hD hS (lv_sub hl [1, 2, 3, 4, 5, 6, 7, 8, 9, 0] (by have hk : (fun k => mim (1152 * sd + k)) ((48 * t + 4 * i) + j) = false := c_39; rw [mN_f (M := (fun k => mim (1152 * sd + k))) (k0 := (48 * t + 4 * i)) hk, mS_f (M := (fun k => mim (1152 * sd + k))) (k0 := (48 * t + 4 * i)) hk, mS_f (M := (fun k => mim (1152 * sd + k))) (k0 := (48 * t + 4 * i)) hk, mS_f (M := (fun k => mim (1152 * sd + k))) (k0 := (48 * t + 4 * i)) hk]; rfl))
    · refine lv_iload hx hb dX7_meanOf_42 (lv_at hl 4 rfl) ?_
      refine g_bif_eq (tgt := 59) hx hb dX7_meanOf_44 (by decide) (fun c_44 => absurd c_44 (by decide)) (fun c_44 => ?_)
      refine lv_aload_n hx hb dX7_meanOf_47 rfl (lv_at hl 0 rfl) ?_
      refine lv_iload_n hx hb dX7_meanOf_48 rfl (lv_at hl 1 rfl) ?_
      refine lv_iload_n hx hb dX7_meanOf_49 rfl (lv_at hl 2 rfl) ?_
      refine lv_iload hx hb dX7_meanOf_50 (lv_at hl 9 rfl) ?_
      refine lv_iload_n hx hb dX7_meanOf_52 rfl (lv_at hl 3 rfl) ?_
      refine gc_V_d (As := [.int (nI (t)), .int (nI (i)), .int (nI (j)), .int (nI (sd))]) (rest := []) (c_X7_base l f0_mod f0_mlc f0_mlg f0_mpr b_mlc b_mlg ht hi hj_j hsd hlg) ⟨hx, hb, hml, hown, hts⟩ (cwV 4 hts gX7_meanOf_X7_base rfl rfl rfl (by decide +kernel) ⟨Nat.le_of_ble_eq_true rfl, Nat.le_of_ble_eq_true rfl⟩) hE hP hD hS hA _ f0_mod rfl rfl rfl rfl hl.1 (Nat.le_of_ble_eq_true rfl) dX7_meanOf_53 ⟨Nat.le_of_ble_eq_true rfl, Nat.le_of_ble_eq_true rfl⟩ (fun r_53 u_53 H locs hP hD hS q_53 => ?_)
      have q9 := q_53.trans (mBase_s hi hj_j hlg)
      subst q9
      refine lv_goto (tgt := 71) hx hb dX7_meanOf_56 (by decide) ?_
      refine lv_dstore (lv' := [(13, .double ((sBase mlc mlg (fun k => mpr (1152 * sd + k))) ((48 * t + 4 * i) + j))), (0, .ref a_mod), (1, .int (nI (t))), (2, .int (nI (i))), (3, .int (nI (sd))), (4, .int (gb (true))), (5, .int (nI (mN (fun k => mim (1152 * sd + k)) (48 * t + 4 * i) (j)))), (6, .double (mS (fun k => mim (1152 * sd + k)) (qF (sBase mlc mlg (fun k => mpr (1152 * sd + k))) (mRate (rCw sd mfx mce) mgm)) (48 * t + 4 * i) (j))), (8, .double (mS (fun k => mim (1152 * sd + k)) (sBase mlc mlg (fun k => mpr (1152 * sd + k))) (48 * t + 4 * i) (j))), (10, .double (mS (fun k => mim (1152 * sd + k)) (mRate (rCw sd mfx mce) mgm) (48 * t + 4 * i) (j))), (12, .int (nI (j)))]) hx hb dX7_meanOf_71 hl (by decide) rfl (fun ls hl => ?_)
      refine lv_iload hx hb dX7_meanOf_73 (lv_at hl 5 rfl) ?_
      refine g_bif_eq (tgt := 93) hx hb dX7_meanOf_75 (by decide) (fun c_75 => absurd c_75 (by decide)) (fun c_75 => ?_)
      refine lv_aload_n hx hb dX7_meanOf_78 rfl (lv_at hl 1 rfl) ?_
      refine lv_iload_n hx hb dX7_meanOf_79 rfl (lv_at hl 2 rfl) ?_
      refine lv_iload_n hx hb dX7_meanOf_80 rfl (lv_at hl 3 rfl) ?_
      refine lv_iload hx hb dX7_meanOf_81 (lv_at hl 10 rfl) ?_
      refine gc_S_i (As := [.int (nI (t)), .int (nI (i)), .int (nI (j))]) (rest := [.ref a_mod]) (c_X7_cell l) ⟨hx, hb, hml, hown, hts⟩ (va_cwS 3 hts gX7_meanOf_X7_cell rfl rfl rfl (by decide +kernel) ⟨Nat.le_of_ble_eq_true rfl, Nat.le_of_ble_eq_true rfl⟩) hE hP hD hS hA rfl rfl hl.1 (Nat.le_of_ble_eq_true rfl) dX7_meanOf_83 ⟨Nat.le_of_ble_eq_true rfl, Nat.le_of_ble_eq_true rfl⟩ (fun r_83 u_83 H locs hP hD hS q_83 => ?_)
      subst q_83
      refine lv_iload_n hx hb dX7_meanOf_86 rfl (lv_at hl 4 rfl) ?_
      refine gc_V_d (As := [.int (nI (48 * (t) + 4 * (i) + (j))), .int (nI (sd))]) (rest := []) (c_X7_rate l f0_mod f0_mce f0_mgm f0_mfx b_mce b_mgm b_mfx (by omega) hsd (hgm _)) ⟨hx, hb, hml, hown, hts⟩ (cwV 2 hts gX7_meanOf_X7_rate rfl rfl rfl (by decide +kernel) ⟨Nat.le_of_ble_eq_true rfl, Nat.le_of_ble_eq_true rfl⟩) hE hP hD hS hA _ f0_mod rfl rfl rfl rfl hl.1 (Nat.le_of_ble_eq_true rfl) dX7_meanOf_87 ⟨Nat.le_of_ble_eq_true rfl, Nat.le_of_ble_eq_true rfl⟩ (fun r_87 u_87 H locs hP hD hS q_87 => ?_)
      subst q_87
      refine lv_goto (tgt := 102) hx hb dX7_meanOf_90 (by decide) ?_
      refine lv_dstore (lv' := [(15, .double (mRate (rCw (sd) mfx mce) mgm (48 * (t) + 4 * (i) + (j)))), (13, .double ((sBase mlc mlg (fun k => mpr (1152 * sd + k))) ((48 * t + 4 * i) + j))), (0, .ref a_mod), (1, .int (nI (t))), (2, .int (nI (i))), (3, .int (nI (sd))), (4, .int (gb (true))), (5, .int (nI (mN (fun k => mim (1152 * sd + k)) (48 * t + 4 * i) (j)))), (6, .double (mS (fun k => mim (1152 * sd + k)) (qF (sBase mlc mlg (fun k => mpr (1152 * sd + k))) (mRate (rCw sd mfx mce) mgm)) (48 * t + 4 * i) (j))), (8, .double (mS (fun k => mim (1152 * sd + k)) (sBase mlc mlg (fun k => mpr (1152 * sd + k))) (48 * t + 4 * i) (j))), (10, .double (mS (fun k => mim (1152 * sd + k)) (mRate (rCw sd mfx mce) mgm) (48 * t + 4 * i) (j))), (12, .int (nI (j)))]) hx hb dX7_meanOf_102 hl (by decide) rfl (fun ls hl => ?_)
      refine lv_iinc (v := nI (mN (fun k => mim (1152 * sd + k)) (48 * t + 4 * i) (j) + 1)) (lv' := [(5, .int (nI (mN (fun k => mim (1152 * sd + k)) (48 * t + 4 * i) (j) + 1))), (15, .double (mRate (rCw (sd) mfx mce) mgm (48 * (t) + 4 * (i) + (j)))), (13, .double ((sBase mlc mlg (fun k => mpr (1152 * sd + k))) ((48 * t + 4 * i) + j))), (0, .ref a_mod), (1, .int (nI (t))), (2, .int (nI (i))), (3, .int (nI (sd))), (4, .int (gb (true))), (6, .double (mS (fun k => mim (1152 * sd + k)) (qF (sBase mlc mlg (fun k => mpr (1152 * sd + k))) (mRate (rCw sd mfx mce) mgm)) (48 * t + 4 * i) (j))), (8, .double (mS (fun k => mim (1152 * sd + k)) (sBase mlc mlg (fun k => mpr (1152 * sd + k))) (48 * t + 4 * i) (j))), (10, .double (mS (fun k => mim (1152 * sd + k)) (mRate (rCw sd mfx mce) mgm) (48 * t + 4 * i) (j))), (12, .int (nI (j)))]) hx hb dX7_meanOf_104 hl (k := 7) rfl (nI_add _ 1) (by decide) rfl (fun ls hl => ?_)
      refine lv_dload hx hb dX7_meanOf_107 (lv_at hl 9 rfl) ?_
      refine lv_dload hx hb dX7_meanOf_109 (lv_at hl 2 rfl) ?_
      refine lv_dadd hx hb dX7_meanOf_111 (hm.1 j hj_j c_39).1 ?_
      refine lv_dstore (lv' := [(8, .double (FP.dadd (mS (fun k => mim (1152 * sd + k)) (sBase mlc mlg (fun k => mpr (1152 * sd + k))) (48 * t + 4 * i) (j)) ((sBase mlc mlg (fun k => mpr (1152 * sd + k))) ((48 * t + 4 * i) + j)))), (5, .int (nI (mN (fun k => mim (1152 * sd + k)) (48 * t + 4 * i) (j) + 1))), (15, .double (mRate (rCw (sd) mfx mce) mgm (48 * (t) + 4 * (i) + (j)))), (13, .double ((sBase mlc mlg (fun k => mpr (1152 * sd + k))) ((48 * t + 4 * i) + j))), (0, .ref a_mod), (1, .int (nI (t))), (2, .int (nI (i))), (3, .int (nI (sd))), (4, .int (gb (true))), (6, .double (mS (fun k => mim (1152 * sd + k)) (qF (sBase mlc mlg (fun k => mpr (1152 * sd + k))) (mRate (rCw sd mfx mce) mgm)) (48 * t + 4 * i) (j))), (10, .double (mS (fun k => mim (1152 * sd + k)) (mRate (rCw sd mfx mce) mgm) (48 * t + 4 * i) (j))), (12, .int (nI (j)))]) hx hb dX7_meanOf_112 hl (by decide) rfl (fun ls hl => ?_)
      refine lv_dload hx hb dX7_meanOf_114 (lv_at hl 10 rfl) ?_
      refine lv_dload hx hb dX7_meanOf_116 (lv_at hl 2 rfl) ?_
      refine lv_dadd hx hb dX7_meanOf_118 (hm.1 j hj_j c_39).2.1 ?_
      refine lv_dstore (lv' := [(10, .double (FP.dadd (mS (fun k => mim (1152 * sd + k)) (mRate (rCw sd mfx mce) mgm) (48 * t + 4 * i) (j)) (mRate (rCw (sd) mfx mce) mgm (48 * (t) + 4 * (i) + (j))))), (8, .double (FP.dadd (mS (fun k => mim (1152 * sd + k)) (sBase mlc mlg (fun k => mpr (1152 * sd + k))) (48 * t + 4 * i) (j)) ((sBase mlc mlg (fun k => mpr (1152 * sd + k))) ((48 * t + 4 * i) + j)))), (5, .int (nI (mN (fun k => mim (1152 * sd + k)) (48 * t + 4 * i) (j) + 1))), (15, .double (mRate (rCw (sd) mfx mce) mgm (48 * (t) + 4 * (i) + (j)))), (13, .double ((sBase mlc mlg (fun k => mpr (1152 * sd + k))) ((48 * t + 4 * i) + j))), (0, .ref a_mod), (1, .int (nI (t))), (2, .int (nI (i))), (3, .int (nI (sd))), (4, .int (gb (true))), (6, .double (mS (fun k => mim (1152 * sd + k)) (qF (sBase mlc mlg (fun k => mpr (1152 * sd + k))) (mRate (rCw sd mfx mce) mgm)) (48 * t + 4 * i) (j))), (12, .int (nI (j)))]) hx hb dX7_meanOf_119 hl (by decide) rfl (fun ls hl => ?_)
      refine lv_dload hx hb dX7_meanOf_121 (lv_at hl 10 rfl) ?_
      refine lv_aload_n hx hb dX7_meanOf_123 rfl (lv_at hl 5 rfl) ?_
      refine va_get (D := D) (ci := 8) (v := .ref a_mme) (C := RX7) (T := TX7) (N := 33) hx hb hts in_RX7 hown hE.1 (gv1 hP f0_mod) 0 rfl rfl 3 (by decide) (hts (.fieldLink RX7 13 "BasketryOfficeModel" "mean" "[I") (by decide +kernel)) (fun _ h9 => h9) rfl dX7_meanOf_124 ?_
      refine lv_iload_n hx hb dX7_meanOf_127 rfl (lv_at hl 7 rfl) ?_
      refine g_nald hx hb hE hP _ f0_mme (by omega) (by decide) dX7_meanOf_128 ?_
      have bd_128_2 := b_mme (i)
      refine g_if_ne (tgt := 140) hx hb (by omega) dX7_meanOf_129 (by decide) (fun c_129 => absurd c_129 (by omega)) (fun c_129 => ?_)
      refine lv_dload hx hb dX7_meanOf_132 (lv_at hl 4 rfl) ?_
      refine lv_dload hx hb dX7_meanOf_134 (lv_at hl 3 rfl) ?_
      refine lv_ddiv hx hb dX7_meanOf_136 (hm.1 j hj_j c_39).2.2.1 ?_
      refine lv_goto (tgt := 147) hx hb dX7_meanOf_137 (by decide) ?_
      refine lv_dadd hx hb dX7_meanOf_147 (hm.1 j hj_j c_39).2.2.2.1 ?_
      refine lv_dstore (lv' := [(6, .double (FP.dadd (mS (fun k => mim (1152 * sd + k)) (qF (sBase mlc mlg (fun k => mpr (1152 * sd + k))) (mRate (rCw sd mfx mce) mgm)) (48 * t + 4 * i) (j)) (FP.ddiv ((sBase mlc mlg (fun k => mpr (1152 * sd + k))) ((48 * t + 4 * i) + j)) (mRate (rCw (sd) mfx mce) mgm (48 * (t) + 4 * (i) + (j)))))), (10, .double (FP.dadd (mS (fun k => mim (1152 * sd + k)) (mRate (rCw sd mfx mce) mgm) (48 * t + 4 * i) (j)) (mRate (rCw (sd) mfx mce) mgm (48 * (t) + 4 * (i) + (j))))), (8, .double (FP.dadd (mS (fun k => mim (1152 * sd + k)) (sBase mlc mlg (fun k => mpr (1152 * sd + k))) (48 * t + 4 * i) (j)) ((sBase mlc mlg (fun k => mpr (1152 * sd + k))) ((48 * t + 4 * i) + j)))), (5, .int (nI (mN (fun k => mim (1152 * sd + k)) (48 * t + 4 * i) (j) + 1))), (15, .double (mRate (rCw (sd) mfx mce) mgm (48 * (t) + 4 * (i) + (j)))), (13, .double ((sBase mlc mlg (fun k => mpr (1152 * sd + k))) ((48 * t + 4 * i) + j))), (0, .ref a_mod), (1, .int (nI (t))), (2, .int (nI (i))), (3, .int (nI (sd))), (4, .int (gb (true))), (12, .int (nI (j)))]) hx hb dX7_meanOf_148 hl (by decide) rfl (fun ls hl => ?_)
      refine lv_iinc (v := nI (j + 1)) (lv' := [(12, .int (nI (j + 1))), (6, .double (FP.dadd (mS (fun k => mim (1152 * sd + k)) (qF (sBase mlc mlg (fun k => mpr (1152 * sd + k))) (mRate (rCw sd mfx mce) mgm)) (48 * t + 4 * i) (j)) (FP.ddiv ((sBase mlc mlg (fun k => mpr (1152 * sd + k))) ((48 * t + 4 * i) + j)) (mRate (rCw (sd) mfx mce) mgm (48 * (t) + 4 * (i) + (j)))))), (10, .double (FP.dadd (mS (fun k => mim (1152 * sd + k)) (mRate (rCw sd mfx mce) mgm) (48 * t + 4 * i) (j)) (mRate (rCw (sd) mfx mce) mgm (48 * (t) + 4 * (i) + (j))))), (8, .double (FP.dadd (mS (fun k => mim (1152 * sd + k)) (sBase mlc mlg (fun k => mpr (1152 * sd + k))) (48 * t + 4 * i) (j)) ((sBase mlc mlg (fun k => mpr (1152 * sd + k))) ((48 * t + 4 * i) + j)))), (5, .int (nI (mN (fun k => mim (1152 * sd + k)) (48 * t + 4 * i) (j) + 1))), (15, .double (mRate (rCw (sd) mfx mce) mgm (48 * (t) + 4 * (i) + (j)))), (13, .double ((sBase mlc mlg (fun k => mpr (1152 * sd + k))) ((48 * t + 4 * i) + j))), (0, .ref a_mod), (1, .int (nI (t))), (2, .int (nI (i))), (3, .int (nI (sd))), (4, .int (gb (true)))]) hx hb dX7_meanOf_150 hl (k := 11) rfl (nI_add _ 1) (by decide) rfl (fun ls hl => ?_)
      refine lv_goto (tgt := 15) hx hb dX7_meanOf_153 (by decide) ?_
      have hP : gvP D vwCl ws _ := g_trP (rfl) hP
      have hD : gvD A ws := g_trD (rfl) hD
      exact ih_j H locs ls hP hD hS (lv_sub hl [7, 8, 9, 10, 11, 4, 1, 3, 2, 0] (by have hk : (fun k => mim (1152 * sd + k)) ((48 * t + 4 * i) + j) = true := c_39; rw [mN_t (M := (fun k => mim (1152 * sd + k))) (k0 := (48 * t + 4 * i)) hk, mS_t (M := (fun k => mim (1152 * sd + k))) (k0 := (48 * t + 4 * i)) hk, mS_t (M := (fun k => mim (1152 * sd + k))) (k0 := (48 * t + 4 * i)) hk, mS_t (M := (fun k => mim (1152 * sd + k))) (k0 := (48 * t + 4 * i)) hk]; rfl))

theorem in_c_X7_meanOf_t1_RX7 : ∀ w ∈ wsX70, w ∈ wsX7_meanOf := by decide +kernel
set_option maxHeartbeats 4000000 in
set_option maxRecDepth 100000 in
theorem c_X7_meanOf_t1 (l : Launch) {D : va_G} {y : Nat → Nat} {ws : va_W} {x_mod_0 : Value} {x_mod_1 : Value} {x_mod_2 : Value} {x_mod_4 : Value} {x_mod_5 : Value} {x_mod_6 : Value} {x_mod_7 : Value} {x_mod_11 : Value} {x_mod_14 : Value} {x_mod_15 : Value} {x_mod_16 : Value} {x_mod_19 : Value} {x_mod_20 : Value} {x_mod_21 : Value} {x_mod_22 : Value} {x_mod_23 : Value} {x_mod_24 : Value} {x_mod_25 : Value} {x_mod_26 : Value} {x_mod_27 : Value} {x_mod_28 : Value} {x_mod_29 : Value} {x_mod_30 : Value} {x_mod_31 : Value} {x_mod_32 : Value} {p_mod p_mce p_mgm p_mfx p_mlc p_mlg p_mpr p_mim p_mme a_mod a_mce a_mgm a_mfx a_mlc a_mlg a_mpr a_mim a_mme : Nat} {mce : Nat → Nat} {mgm : Nat → Nat} {mfx : Nat → Nat} {mlc : Nat → Nat} {mlg : Nat → Nat} {mpr : Nat → UInt64} {mim : Nat → Bool} {mme : Nat → Nat} {t i sd : Nat} (f0_mod : ws[p_mod]? = some (a_mod, .inr (8, x_mod_0 :: x_mod_1 :: x_mod_2 :: .ref a_mme :: x_mod_4 :: x_mod_5 :: x_mod_6 :: x_mod_7 :: .ref a_mce :: .ref a_mgm :: .ref a_mfx :: x_mod_11 :: .ref a_mlc :: .ref a_mlg :: x_mod_14 :: x_mod_15 :: x_mod_16 :: .ref a_mpr :: .ref a_mim :: x_mod_19 :: x_mod_20 :: x_mod_21 :: x_mod_22 :: x_mod_23 :: x_mod_24 :: x_mod_25 :: x_mod_26 :: x_mod_27 :: x_mod_28 :: x_mod_29 :: x_mod_30 :: x_mod_31 :: x_mod_32 :: []))) (f0_mce : ws[p_mce]? = some (a_mce, eN y 1152 mce)) (f0_mgm : ws[p_mgm]? = some (a_mgm, eN y 1152 mgm)) (f0_mfx : ws[p_mfx]? = some (a_mfx, eN y 1152 mfx)) (f0_mlc : ws[p_mlc]? = some (a_mlc, eN y 1152 mlc)) (f0_mlg : ws[p_mlg]? = some (a_mlg, eN y 1152 mlg)) (f0_mpr : ws[p_mpr]? = some (a_mpr, eD y 2304 mpr)) (f0_mim : ws[p_mim]? = some (a_mim, eZ y 2304 mim)) (f0_mme : ws[p_mme]? = some (a_mme, eN y 12 mme)) (b_mce : ∀ k, mce k ≤ 100000) (b_mgm : ∀ k, mgm k ≤ 10000) (b_mfx : ∀ k, mfx k ≤ 100000) (b_mlc : ∀ k, mlc k ≤ 100000) (b_mlg : ∀ k, mlg k ≤ 10000) (b_mme : ∀ k, mme k ≤ 2) (ht : t < 24) (hi : i < 12) (hsd : sd ≤ 1) (hgm : ∀ k, mgm k = 0 → mce k = 0 ∧ mfx k = 0) (hlg : ∀ k, mlg k = 0 → mlc k = 0) (hme : mme i ≠ 0) (hm : nnMean (mme i) (fun k => mim (1152 * sd + k)) (sBase mlc mlg (fun k => mpr (1152 * sd + k))) (mRate (rCw sd mfx mce) mgm) (48 * t + 4 * i)) : gMd l yX7_meanOf wsX7_meanOf ({ frames := 2, cells := 0, slots := 0, locals := 47 }) D y [.ref a_mod, .int (nI (t)), .int (nI (i)), .int (nI (sd)), .int (gb (true))] ws (fun r (_ : Unit) => r = sMean (mme i) (fun k => mim (1152 * sd + k)) (sBase mlc mlg (fun k => mpr (1152 * sd + k))) (mRate (rCw sd mfx mce) mgm) (48 * t + 4 * i)) (fun (_ : Unit) => ws) := by
  refine g_met_d (cc := cX7_meanOf) (maxL := 17) (by decide) rfl (Nat.le_of_ble_eq_true rfl) ?_
  intro p e s m below meth c A hx hb hml hr hts hown hnm hlocks hE hP hD hS hA ls hl
  have hown : s.vm.findClass RX7 = some m.cls := hown
  have hl : lv_has ls 17 [(0, .ref a_mod), (1, .int (nI (t))), (2, .int (nI (i))), (3, .int (nI (sd))), (4, .int (gb (true)))] := hl
  have in_RX7 := in_c_X7_meanOf_t1_RX7
  refine lv_iconst (v := nI 0) hx hb dX7_meanOf_0 (by decide) ?_
  refine lv_istore (lv' := [(5, .int (nI (0))), (0, .ref a_mod), (1, .int (nI (t))), (2, .int (nI (i))), (3, .int (nI (sd))), (4, .int (gb (true)))]) hx hb dX7_meanOf_1 hl (by decide) rfl (fun ls hl => ?_)
  refine g_dconst0 hx hb dX7_meanOf_3 ?_
  refine lv_dstore (lv' := [(6, .double 0), (5, .int (nI (0))), (0, .ref a_mod), (1, .int (nI (t))), (2, .int (nI (i))), (3, .int (nI (sd))), (4, .int (gb (true)))]) hx hb dX7_meanOf_4 hl (by decide) rfl (fun ls hl => ?_)
  refine g_dconst0 hx hb dX7_meanOf_6 ?_
  refine lv_dstore (lv' := [(8, .double 0), (6, .double 0), (5, .int (nI (0))), (0, .ref a_mod), (1, .int (nI (t))), (2, .int (nI (i))), (3, .int (nI (sd))), (4, .int (gb (true)))]) hx hb dX7_meanOf_7 hl (by decide) rfl (fun ls hl => ?_)
  refine g_dconst0 hx hb dX7_meanOf_9 ?_
  refine lv_dstore (lv' := [(10, .double 0), (8, .double 0), (6, .double 0), (5, .int (nI (0))), (0, .ref a_mod), (1, .int (nI (t))), (2, .int (nI (i))), (3, .int (nI (sd))), (4, .int (gb (true)))]) hx hb dX7_meanOf_10 hl (by decide) rfl (fun ls hl => ?_)
  refine lv_iconst (v := nI 0) hx hb dX7_meanOf_12 (by decide) ?_
  refine lv_istore (lv' := [(12, .int (nI (0))), (10, .double 0), (8, .double 0), (6, .double 0), (5, .int (nI (0))), (0, .ref a_mod), (1, .int (nI (t))), (2, .int (nI (i))), (3, .int (nI (sd))), (4, .int (gb (true)))]) hx hb dX7_meanOf_13 hl (by decide) rfl (fun ls hl => ?_)
  have hP : gvP D vwCl ws _ := g_trP (rfl) hP
  have hD : gvD A ws := g_trD (rfl) hD
  refine g_for (fun j => ws) (fun j => [(0, .ref a_mod), (1, .int (nI (t))), (2, .int (nI (i))), (3, .int (nI (sd))), (4, .int (gb (true))), (5, .int (nI (mN (fun k => mim (1152 * sd + k)) (48 * t + 4 * i) (j)))), (6, .double (mS (fun k => mim (1152 * sd + k)) (vF (sBase mlc mlg (fun k => mpr (1152 * sd + k))) (mRate (rCw sd mfx mce) mgm)) (48 * t + 4 * i) (j))), (8, .double (mS (fun k => mim (1152 * sd + k)) (sBase mlc mlg (fun k => mpr (1152 * sd + k))) (48 * t + 4 * i) (j))), (10, .double (mS (fun k => mim (1152 * sd + k)) (mRate (rCw sd mfx mce) mgm) (48 * t + 4 * i) (j))), (12, .int (nI (j)))]) (4) (0) (by omega) ?_ ?_ hP hD hS (lv_sub hl [5, 6, 7, 8, 9, 4, 3, 2, 1, 0] rfl)
  · intro H locs ls hP hD hS hl
    have hP : gvP D vwCl ws H := hP
    have hD : gvD A ws := hD
    have hl : lv_has ls 17 [(0, .ref a_mod), (1, .int (nI (t))), (2, .int (nI (i))), (3, .int (nI (sd))), (4, .int (gb (true))), (5, .int (nI (mN (fun k => mim (1152 * sd + k)) (48 * t + 4 * i) (4)))), (6, .double (mS (fun k => mim (1152 * sd + k)) (vF (sBase mlc mlg (fun k => mpr (1152 * sd + k))) (mRate (rCw sd mfx mce) mgm)) (48 * t + 4 * i) (4))), (8, .double (mS (fun k => mim (1152 * sd + k)) (sBase mlc mlg (fun k => mpr (1152 * sd + k))) (48 * t + 4 * i) (4))), (10, .double (mS (fun k => mim (1152 * sd + k)) (mRate (rCw sd mfx mce) mgm) (48 * t + 4 * i) (4))), (12, .int (nI (4)))] := hl
    refine lv_iload hx hb dX7_meanOf_15 (lv_at hl 9 rfl) ?_
    refine lv_iconst (v := nI 4) hx hb dX7_meanOf_17 (by decide) ?_
    refine g_icmp_ge (tgt := 156) hx hb (by omega) (by omega) dX7_meanOf_18 (by decide) (fun c_18 => ?_) (fun c_18 => absurd c_18 (by omega))
    refine lv_iload hx hb dX7_meanOf_156 (lv_at hl 5 rfl) ?_
    refine g_if_ne (tgt := 165) hx hb (by have := mN_le (fun k => mim (1152 * sd + k)) (48 * t + 4 * i) 4; omega) dX7_meanOf_158 (by decide) (fun c_158 => ?_) (fun c_158 => ?_)
    · refine lv_aload_n hx hb dX7_meanOf_165 rfl (lv_at hl 0 rfl) ?_
      refine va_get (D := D) (ci := 8) (v := .ref a_mme) (C := RX7) (T := TX7) (N := 33) hx hb hts in_RX7 hown hE.1 (gv1 hP f0_mod) 0 rfl rfl 3 (by decide) (hts (.fieldLink RX7 13 "BasketryOfficeModel" "mean" "[I") (by decide +kernel)) (fun _ h9 => h9) rfl dX7_meanOf_166 ?_
      refine lv_iload_n hx hb dX7_meanOf_169 rfl (lv_at hl 2 rfl) ?_
      refine g_nald hx hb hE hP _ f0_mme (by omega) (by decide) dX7_meanOf_170 ?_
      have bd_170_1 := b_mme (i)
      refine g_if_ne (tgt := 183) hx hb (by omega) dX7_meanOf_171 (by decide) (fun c_171 => ?_) (fun c_171 => absurd c_171 (by omega))
      refine lv_aload_n hx hb dX7_meanOf_183 rfl (lv_at hl 0 rfl) ?_
      refine va_get (D := D) (ci := 8) (v := .ref a_mme) (C := RX7) (T := TX7) (N := 33) hx hb hts in_RX7 hown hE.1 (gv1 hP f0_mod) 0 rfl rfl 3 (by decide) (hts (.fieldLink RX7 13 "BasketryOfficeModel" "mean" "[I") (by decide +kernel)) (fun _ h9 => h9) rfl dX7_meanOf_184 ?_
      refine lv_iload_n hx hb dX7_meanOf_187 rfl (lv_at hl 2 rfl) ?_
      refine g_nald hx hb hE hP _ f0_mme (by omega) (by decide) dX7_meanOf_188 ?_
      have bd_188_2 := b_mme (i)
      refine lv_iconst (v := nI 1) hx hb dX7_meanOf_189 (by decide) ?_
      refine g_icmp_ne (tgt := 201) hx hb (by omega) (by omega) dX7_meanOf_190 (by decide) (fun c_190 => ?_) (fun c_190 => ?_)
      · refine lv_iload hx hb dX7_meanOf_201 (lv_at hl 5 rfl) ?_
        refine lv_i2d hx hb dX7_meanOf_203 ?_
        refine lv_dload hx hb dX7_meanOf_204 (lv_at hl 6 rfl) ?_
        refine lv_ddiv hx hb dX7_meanOf_206 ((hm.2 (by omega)).2.2 hme (by omega)) ?_
        refine g_dret hx hb hr hlocks () dX7_meanOf_207 hS hP hD ?_
        exact (sRel_2 (by omega) hme (by omega)).symm
      · refine lv_dload hx hb dX7_meanOf_193 (lv_at hl 7 rfl) ?_
        refine lv_dload hx hb dX7_meanOf_195 (lv_at hl 8 rfl) ?_
        refine lv_ddiv hx hb dX7_meanOf_197 ((hm.2 (by omega)).2.1 (by omega)) ?_
        refine lv_goto (tgt := 207) hx hb dX7_meanOf_198 (by decide) ?_
        refine g_dret hx hb hr hlocks () dX7_meanOf_207 hS hP hD ?_
        exact (sRel_1 (by omega) (by omega)).symm
    · refine g_dconst0 hx hb dX7_meanOf_161 ?_
      refine lv_goto (tgt := 207) hx hb dX7_meanOf_162 (by decide) ?_
      refine g_dret hx hb hr hlocks () dX7_meanOf_207 hS hP hD ?_
      have h0 : mN (fun k => mim (1152 * sd + k)) (48 * t + 4 * i) 4 = 0 := by omega
      unfold sMean
      rw [h0, sRel_z]
  · intro j hj_j ih_j H locs ls hP hD hS hl
    have hP : gvP D vwCl ws H := hP
    have hD : gvD A ws := hD
    have hl : lv_has ls 17 [(0, .ref a_mod), (1, .int (nI (t))), (2, .int (nI (i))), (3, .int (nI (sd))), (4, .int (gb (true))), (5, .int (nI (mN (fun k => mim (1152 * sd + k)) (48 * t + 4 * i) (j)))), (6, .double (mS (fun k => mim (1152 * sd + k)) (vF (sBase mlc mlg (fun k => mpr (1152 * sd + k))) (mRate (rCw sd mfx mce) mgm)) (48 * t + 4 * i) (j))), (8, .double (mS (fun k => mim (1152 * sd + k)) (sBase mlc mlg (fun k => mpr (1152 * sd + k))) (48 * t + 4 * i) (j))), (10, .double (mS (fun k => mim (1152 * sd + k)) (mRate (rCw sd mfx mce) mgm) (48 * t + 4 * i) (j))), (12, .int (nI (j)))] := hl
    refine lv_iload hx hb dX7_meanOf_15 (lv_at hl 9 rfl) ?_
    refine lv_iconst (v := nI 4) hx hb dX7_meanOf_17 (by decide) ?_
    refine g_icmp_ge (tgt := 156) hx hb (by omega) (by omega) dX7_meanOf_18 (by decide) (fun c_18 => absurd c_18 (by omega)) (fun c_18 => ?_)
    refine lv_aload_n hx hb dX7_meanOf_21 rfl (lv_at hl 0 rfl) ?_
    refine va_get (D := D) (ci := 8) (v := .ref a_mim) (C := RX7) (T := TX7) (N := 33) hx hb hts in_RX7 hown hE.1 (gv1 hP f0_mod) 0 rfl rfl 18 (by decide) (hts (.fieldLink RX7 51 "BasketryOfficeModel" "isMatched" "[Z") (by decide +kernel)) (fun _ h9 => h9) rfl dX7_meanOf_22 ?_
    refine lv_sipush (v := nI 1152) hx hb dX7_meanOf_25 (by decide) ?_
    refine lv_iload_n hx hb dX7_meanOf_28 rfl (lv_at hl 3 rfl) ?_
    refine g_imul hx hb dX7_meanOf_29 (pk_mul _ _) ?_
    refine lv_iload_n hx hb dX7_meanOf_30 rfl (lv_at hl 1 rfl) ?_
    refine lv_iload_n hx hb dX7_meanOf_31 rfl (lv_at hl 2 rfl) ?_
    refine lv_iload hx hb dX7_meanOf_32 (lv_at hl 9 rfl) ?_
    refine gc_S_i (As := [.int (nI (t)), .int (nI (i)), .int (nI (j))]) (rest := [.int (nI (1152 * sd)), .ref a_mim]) (c_X7_cell l) ⟨hx, hb, hml, hown, hts⟩ (va_cwS 3 hts gX7_meanOf_X7_cell rfl rfl rfl (by decide +kernel) ⟨Nat.le_of_ble_eq_true rfl, Nat.le_of_ble_eq_true rfl⟩) hE hP hD hS hA rfl rfl hl.1 (Nat.le_of_ble_eq_true rfl) dX7_meanOf_34 ⟨Nat.le_of_ble_eq_true rfl, Nat.le_of_ble_eq_true rfl⟩ (fun r_34 u_34 H locs hP hD hS q_34 => ?_)
    subst q_34
    refine g_iadd hx hb dX7_meanOf_37 (nI_add _ _) ?_
    refine g_zald hx hb hE hP _ f0_mim (by omega) (by decide) dX7_meanOf_38 ?_
    refine g_bif_eq (tgt := 150) hx hb dX7_meanOf_39 (by decide) (fun c_39 => ?_) (fun c_39 => ?_)
    · refine lv_iinc (v := nI (j + 1)) (lv' := [(12, .int (nI (j + 1))), (0, .ref a_mod), (1, .int (nI (t))), (2, .int (nI (i))), (3, .int (nI (sd))), (4, .int (gb (true))), (5, .int (nI (mN (fun k => mim (1152 * sd + k)) (48 * t + 4 * i) (j)))), (6, .double (mS (fun k => mim (1152 * sd + k)) (vF (sBase mlc mlg (fun k => mpr (1152 * sd + k))) (mRate (rCw sd mfx mce) mgm)) (48 * t + 4 * i) (j))), (8, .double (mS (fun k => mim (1152 * sd + k)) (sBase mlc mlg (fun k => mpr (1152 * sd + k))) (48 * t + 4 * i) (j))), (10, .double (mS (fun k => mim (1152 * sd + k)) (mRate (rCw sd mfx mce) mgm) (48 * t + 4 * i) (j)))]) hx hb dX7_meanOf_150 hl (k := 9) rfl (nI_add _ 1) (by decide) rfl (fun ls hl => ?_)
      refine lv_goto (tgt := 15) hx hb dX7_meanOf_153 (by decide) ?_
      have hP : gvP D vwCl ws _ := g_trP (rfl) hP
      have hD : gvD A ws := g_trD (rfl) hD
      exact ih_j H locs ls hP hD hS (lv_sub hl [1, 2, 3, 4, 5, 6, 7, 8, 9, 0] (by have hk : (fun k => mim (1152 * sd + k)) ((48 * t + 4 * i) + j) = false := c_39; rw [mN_f (M := (fun k => mim (1152 * sd + k))) (k0 := (48 * t + 4 * i)) hk, mS_f (M := (fun k => mim (1152 * sd + k))) (k0 := (48 * t + 4 * i)) hk, mS_f (M := (fun k => mim (1152 * sd + k))) (k0 := (48 * t + 4 * i)) hk, mS_f (M := (fun k => mim (1152 * sd + k))) (k0 := (48 * t + 4 * i)) hk]; rfl))
    · refine lv_iload hx hb dX7_meanOf_42 (lv_at hl 4 rfl) ?_
      refine g_bif_eq (tgt := 59) hx hb dX7_meanOf_44 (by decide) (fun c_44 => absurd c_44 (by decide)) (fun c_44 => ?_)
      refine lv_aload_n hx hb dX7_meanOf_47 rfl (lv_at hl 0 rfl) ?_
      refine lv_iload_n hx hb dX7_meanOf_48 rfl (lv_at hl 1 rfl) ?_
      refine lv_iload_n hx hb dX7_meanOf_49 rfl (lv_at hl 2 rfl) ?_
      refine lv_iload hx hb dX7_meanOf_50 (lv_at hl 9 rfl) ?_
      refine lv_iload_n hx hb dX7_meanOf_52 rfl (lv_at hl 3 rfl) ?_
      refine gc_V_d (As := [.int (nI (t)), .int (nI (i)), .int (nI (j)), .int (nI (sd))]) (rest := []) (c_X7_base l f0_mod f0_mlc f0_mlg f0_mpr b_mlc b_mlg ht hi hj_j hsd hlg) ⟨hx, hb, hml, hown, hts⟩ (cwV 4 hts gX7_meanOf_X7_base rfl rfl rfl (by decide +kernel) ⟨Nat.le_of_ble_eq_true rfl, Nat.le_of_ble_eq_true rfl⟩) hE hP hD hS hA _ f0_mod rfl rfl rfl rfl hl.1 (Nat.le_of_ble_eq_true rfl) dX7_meanOf_53 ⟨Nat.le_of_ble_eq_true rfl, Nat.le_of_ble_eq_true rfl⟩ (fun r_53 u_53 H locs hP hD hS q_53 => ?_)
      have q9 := q_53.trans (mBase_s hi hj_j hlg)
      subst q9
      refine lv_goto (tgt := 71) hx hb dX7_meanOf_56 (by decide) ?_
      refine lv_dstore (lv' := [(13, .double ((sBase mlc mlg (fun k => mpr (1152 * sd + k))) ((48 * t + 4 * i) + j))), (0, .ref a_mod), (1, .int (nI (t))), (2, .int (nI (i))), (3, .int (nI (sd))), (4, .int (gb (true))), (5, .int (nI (mN (fun k => mim (1152 * sd + k)) (48 * t + 4 * i) (j)))), (6, .double (mS (fun k => mim (1152 * sd + k)) (vF (sBase mlc mlg (fun k => mpr (1152 * sd + k))) (mRate (rCw sd mfx mce) mgm)) (48 * t + 4 * i) (j))), (8, .double (mS (fun k => mim (1152 * sd + k)) (sBase mlc mlg (fun k => mpr (1152 * sd + k))) (48 * t + 4 * i) (j))), (10, .double (mS (fun k => mim (1152 * sd + k)) (mRate (rCw sd mfx mce) mgm) (48 * t + 4 * i) (j))), (12, .int (nI (j)))]) hx hb dX7_meanOf_71 hl (by decide) rfl (fun ls hl => ?_)
      refine lv_iload hx hb dX7_meanOf_73 (lv_at hl 5 rfl) ?_
      refine g_bif_eq (tgt := 93) hx hb dX7_meanOf_75 (by decide) (fun c_75 => absurd c_75 (by decide)) (fun c_75 => ?_)
      refine lv_aload_n hx hb dX7_meanOf_78 rfl (lv_at hl 1 rfl) ?_
      refine lv_iload_n hx hb dX7_meanOf_79 rfl (lv_at hl 2 rfl) ?_
      refine lv_iload_n hx hb dX7_meanOf_80 rfl (lv_at hl 3 rfl) ?_
      refine lv_iload hx hb dX7_meanOf_81 (lv_at hl 10 rfl) ?_
      refine gc_S_i (As := [.int (nI (t)), .int (nI (i)), .int (nI (j))]) (rest := [.ref a_mod]) (c_X7_cell l) ⟨hx, hb, hml, hown, hts⟩ (va_cwS 3 hts gX7_meanOf_X7_cell rfl rfl rfl (by decide +kernel) ⟨Nat.le_of_ble_eq_true rfl, Nat.le_of_ble_eq_true rfl⟩) hE hP hD hS hA rfl rfl hl.1 (Nat.le_of_ble_eq_true rfl) dX7_meanOf_83 ⟨Nat.le_of_ble_eq_true rfl, Nat.le_of_ble_eq_true rfl⟩ (fun r_83 u_83 H locs hP hD hS q_83 => ?_)
      subst q_83
      refine lv_iload_n hx hb dX7_meanOf_86 rfl (lv_at hl 4 rfl) ?_
      refine gc_V_d (As := [.int (nI (48 * (t) + 4 * (i) + (j))), .int (nI (sd))]) (rest := []) (c_X7_rate l f0_mod f0_mce f0_mgm f0_mfx b_mce b_mgm b_mfx (by omega) hsd (hgm _)) ⟨hx, hb, hml, hown, hts⟩ (cwV 2 hts gX7_meanOf_X7_rate rfl rfl rfl (by decide +kernel) ⟨Nat.le_of_ble_eq_true rfl, Nat.le_of_ble_eq_true rfl⟩) hE hP hD hS hA _ f0_mod rfl rfl rfl rfl hl.1 (Nat.le_of_ble_eq_true rfl) dX7_meanOf_87 ⟨Nat.le_of_ble_eq_true rfl, Nat.le_of_ble_eq_true rfl⟩ (fun r_87 u_87 H locs hP hD hS q_87 => ?_)
      subst q_87
      refine lv_goto (tgt := 102) hx hb dX7_meanOf_90 (by decide) ?_
      refine lv_dstore (lv' := [(15, .double (mRate (rCw (sd) mfx mce) mgm (48 * (t) + 4 * (i) + (j)))), (13, .double ((sBase mlc mlg (fun k => mpr (1152 * sd + k))) ((48 * t + 4 * i) + j))), (0, .ref a_mod), (1, .int (nI (t))), (2, .int (nI (i))), (3, .int (nI (sd))), (4, .int (gb (true))), (5, .int (nI (mN (fun k => mim (1152 * sd + k)) (48 * t + 4 * i) (j)))), (6, .double (mS (fun k => mim (1152 * sd + k)) (vF (sBase mlc mlg (fun k => mpr (1152 * sd + k))) (mRate (rCw sd mfx mce) mgm)) (48 * t + 4 * i) (j))), (8, .double (mS (fun k => mim (1152 * sd + k)) (sBase mlc mlg (fun k => mpr (1152 * sd + k))) (48 * t + 4 * i) (j))), (10, .double (mS (fun k => mim (1152 * sd + k)) (mRate (rCw sd mfx mce) mgm) (48 * t + 4 * i) (j))), (12, .int (nI (j)))]) hx hb dX7_meanOf_102 hl (by decide) rfl (fun ls hl => ?_)
      refine lv_iinc (v := nI (mN (fun k => mim (1152 * sd + k)) (48 * t + 4 * i) (j) + 1)) (lv' := [(5, .int (nI (mN (fun k => mim (1152 * sd + k)) (48 * t + 4 * i) (j) + 1))), (15, .double (mRate (rCw (sd) mfx mce) mgm (48 * (t) + 4 * (i) + (j)))), (13, .double ((sBase mlc mlg (fun k => mpr (1152 * sd + k))) ((48 * t + 4 * i) + j))), (0, .ref a_mod), (1, .int (nI (t))), (2, .int (nI (i))), (3, .int (nI (sd))), (4, .int (gb (true))), (6, .double (mS (fun k => mim (1152 * sd + k)) (vF (sBase mlc mlg (fun k => mpr (1152 * sd + k))) (mRate (rCw sd mfx mce) mgm)) (48 * t + 4 * i) (j))), (8, .double (mS (fun k => mim (1152 * sd + k)) (sBase mlc mlg (fun k => mpr (1152 * sd + k))) (48 * t + 4 * i) (j))), (10, .double (mS (fun k => mim (1152 * sd + k)) (mRate (rCw sd mfx mce) mgm) (48 * t + 4 * i) (j))), (12, .int (nI (j)))]) hx hb dX7_meanOf_104 hl (k := 7) rfl (nI_add _ 1) (by decide) rfl (fun ls hl => ?_)
      refine lv_dload hx hb dX7_meanOf_107 (lv_at hl 9 rfl) ?_
      refine lv_dload hx hb dX7_meanOf_109 (lv_at hl 2 rfl) ?_
      refine lv_dadd hx hb dX7_meanOf_111 (hm.1 j hj_j c_39).1 ?_
      refine lv_dstore (lv' := [(8, .double (FP.dadd (mS (fun k => mim (1152 * sd + k)) (sBase mlc mlg (fun k => mpr (1152 * sd + k))) (48 * t + 4 * i) (j)) ((sBase mlc mlg (fun k => mpr (1152 * sd + k))) ((48 * t + 4 * i) + j)))), (5, .int (nI (mN (fun k => mim (1152 * sd + k)) (48 * t + 4 * i) (j) + 1))), (15, .double (mRate (rCw (sd) mfx mce) mgm (48 * (t) + 4 * (i) + (j)))), (13, .double ((sBase mlc mlg (fun k => mpr (1152 * sd + k))) ((48 * t + 4 * i) + j))), (0, .ref a_mod), (1, .int (nI (t))), (2, .int (nI (i))), (3, .int (nI (sd))), (4, .int (gb (true))), (6, .double (mS (fun k => mim (1152 * sd + k)) (vF (sBase mlc mlg (fun k => mpr (1152 * sd + k))) (mRate (rCw sd mfx mce) mgm)) (48 * t + 4 * i) (j))), (10, .double (mS (fun k => mim (1152 * sd + k)) (mRate (rCw sd mfx mce) mgm) (48 * t + 4 * i) (j))), (12, .int (nI (j)))]) hx hb dX7_meanOf_112 hl (by decide) rfl (fun ls hl => ?_)
      refine lv_dload hx hb dX7_meanOf_114 (lv_at hl 10 rfl) ?_
      refine lv_dload hx hb dX7_meanOf_116 (lv_at hl 2 rfl) ?_
      refine lv_dadd hx hb dX7_meanOf_118 (hm.1 j hj_j c_39).2.1 ?_
      refine lv_dstore (lv' := [(10, .double (FP.dadd (mS (fun k => mim (1152 * sd + k)) (mRate (rCw sd mfx mce) mgm) (48 * t + 4 * i) (j)) (mRate (rCw (sd) mfx mce) mgm (48 * (t) + 4 * (i) + (j))))), (8, .double (FP.dadd (mS (fun k => mim (1152 * sd + k)) (sBase mlc mlg (fun k => mpr (1152 * sd + k))) (48 * t + 4 * i) (j)) ((sBase mlc mlg (fun k => mpr (1152 * sd + k))) ((48 * t + 4 * i) + j)))), (5, .int (nI (mN (fun k => mim (1152 * sd + k)) (48 * t + 4 * i) (j) + 1))), (15, .double (mRate (rCw (sd) mfx mce) mgm (48 * (t) + 4 * (i) + (j)))), (13, .double ((sBase mlc mlg (fun k => mpr (1152 * sd + k))) ((48 * t + 4 * i) + j))), (0, .ref a_mod), (1, .int (nI (t))), (2, .int (nI (i))), (3, .int (nI (sd))), (4, .int (gb (true))), (6, .double (mS (fun k => mim (1152 * sd + k)) (vF (sBase mlc mlg (fun k => mpr (1152 * sd + k))) (mRate (rCw sd mfx mce) mgm)) (48 * t + 4 * i) (j))), (12, .int (nI (j)))]) hx hb dX7_meanOf_119 hl (by decide) rfl (fun ls hl => ?_)
      refine lv_dload hx hb dX7_meanOf_121 (lv_at hl 10 rfl) ?_
      refine lv_aload_n hx hb dX7_meanOf_123 rfl (lv_at hl 5 rfl) ?_
      refine va_get (D := D) (ci := 8) (v := .ref a_mme) (C := RX7) (T := TX7) (N := 33) hx hb hts in_RX7 hown hE.1 (gv1 hP f0_mod) 0 rfl rfl 3 (by decide) (hts (.fieldLink RX7 13 "BasketryOfficeModel" "mean" "[I") (by decide +kernel)) (fun _ h9 => h9) rfl dX7_meanOf_124 ?_
      refine lv_iload_n hx hb dX7_meanOf_127 rfl (lv_at hl 7 rfl) ?_
      refine g_nald hx hb hE hP _ f0_mme (by omega) (by decide) dX7_meanOf_128 ?_
      have bd_128_3 := b_mme (i)
      refine g_if_ne (tgt := 140) hx hb (by omega) dX7_meanOf_129 (by decide) (fun c_129 => ?_) (fun c_129 => absurd c_129 (by omega))
      refine lv_dconst1 hx hb dX7_meanOf_140 ?_
      refine lv_dload hx hb dX7_meanOf_141 (lv_at hl 4 rfl) ?_
      refine lv_dload hx hb dX7_meanOf_143 (lv_at hl 3 rfl) ?_
      refine lv_ddiv hx hb dX7_meanOf_145 (hm.1 j hj_j c_39).2.2.1 ?_
      refine lv_ddiv hx hb dX7_meanOf_146 (hm.1 j hj_j c_39).2.2.2.2.1 ?_
      refine lv_dadd hx hb dX7_meanOf_147 (hm.1 j hj_j c_39).2.2.2.2.2 ?_
      refine lv_dstore (lv' := [(6, .double (FP.dadd (mS (fun k => mim (1152 * sd + k)) (vF (sBase mlc mlg (fun k => mpr (1152 * sd + k))) (mRate (rCw sd mfx mce) mgm)) (48 * t + 4 * i) (j)) (FP.ddiv (FP.dconst1) (FP.ddiv ((sBase mlc mlg (fun k => mpr (1152 * sd + k))) ((48 * t + 4 * i) + j)) (mRate (rCw (sd) mfx mce) mgm (48 * (t) + 4 * (i) + (j))))))), (10, .double (FP.dadd (mS (fun k => mim (1152 * sd + k)) (mRate (rCw sd mfx mce) mgm) (48 * t + 4 * i) (j)) (mRate (rCw (sd) mfx mce) mgm (48 * (t) + 4 * (i) + (j))))), (8, .double (FP.dadd (mS (fun k => mim (1152 * sd + k)) (sBase mlc mlg (fun k => mpr (1152 * sd + k))) (48 * t + 4 * i) (j)) ((sBase mlc mlg (fun k => mpr (1152 * sd + k))) ((48 * t + 4 * i) + j)))), (5, .int (nI (mN (fun k => mim (1152 * sd + k)) (48 * t + 4 * i) (j) + 1))), (15, .double (mRate (rCw (sd) mfx mce) mgm (48 * (t) + 4 * (i) + (j)))), (13, .double ((sBase mlc mlg (fun k => mpr (1152 * sd + k))) ((48 * t + 4 * i) + j))), (0, .ref a_mod), (1, .int (nI (t))), (2, .int (nI (i))), (3, .int (nI (sd))), (4, .int (gb (true))), (12, .int (nI (j)))]) hx hb dX7_meanOf_148 hl (by decide) rfl (fun ls hl => ?_)
      refine lv_iinc (v := nI (j + 1)) (lv' := [(12, .int (nI (j + 1))), (6, .double (FP.dadd (mS (fun k => mim (1152 * sd + k)) (vF (sBase mlc mlg (fun k => mpr (1152 * sd + k))) (mRate (rCw sd mfx mce) mgm)) (48 * t + 4 * i) (j)) (FP.ddiv (FP.dconst1) (FP.ddiv ((sBase mlc mlg (fun k => mpr (1152 * sd + k))) ((48 * t + 4 * i) + j)) (mRate (rCw (sd) mfx mce) mgm (48 * (t) + 4 * (i) + (j))))))), (10, .double (FP.dadd (mS (fun k => mim (1152 * sd + k)) (mRate (rCw sd mfx mce) mgm) (48 * t + 4 * i) (j)) (mRate (rCw (sd) mfx mce) mgm (48 * (t) + 4 * (i) + (j))))), (8, .double (FP.dadd (mS (fun k => mim (1152 * sd + k)) (sBase mlc mlg (fun k => mpr (1152 * sd + k))) (48 * t + 4 * i) (j)) ((sBase mlc mlg (fun k => mpr (1152 * sd + k))) ((48 * t + 4 * i) + j)))), (5, .int (nI (mN (fun k => mim (1152 * sd + k)) (48 * t + 4 * i) (j) + 1))), (15, .double (mRate (rCw (sd) mfx mce) mgm (48 * (t) + 4 * (i) + (j)))), (13, .double ((sBase mlc mlg (fun k => mpr (1152 * sd + k))) ((48 * t + 4 * i) + j))), (0, .ref a_mod), (1, .int (nI (t))), (2, .int (nI (i))), (3, .int (nI (sd))), (4, .int (gb (true)))]) hx hb dX7_meanOf_150 hl (k := 11) rfl (nI_add _ 1) (by decide) rfl (fun ls hl => ?_)
      refine lv_goto (tgt := 15) hx hb dX7_meanOf_153 (by decide) ?_
      have hP : gvP D vwCl ws _ := g_trP (rfl) hP
      have hD : gvD A ws := g_trD (rfl) hD
      exact ih_j H locs ls hP hD hS (lv_sub hl [7, 8, 9, 10, 11, 4, 1, 3, 2, 0] (by have hk : (fun k => mim (1152 * sd + k)) ((48 * t + 4 * i) + j) = true := c_39; rw [mN_t (M := (fun k => mim (1152 * sd + k))) (k0 := (48 * t + 4 * i)) hk, mS_t (M := (fun k => mim (1152 * sd + k))) (k0 := (48 * t + 4 * i)) hk, mS_t (M := (fun k => mim (1152 * sd + k))) (k0 := (48 * t + 4 * i)) hk, mS_t (M := (fun k => mim (1152 * sd + k))) (k0 := (48 * t + 4 * i)) hk]; rfl))
