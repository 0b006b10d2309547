def mIn (cf : Bool) (r b : UInt64) : Bool := decide (¬ Deq r 0 ∧ ¬ Deq b 0 ∧ Dle (FP.ddiv r b) (sBound cf) ∧ Dge (FP.dmul (FP.ddiv r b) (sBound cf)) FP.dconst1)
theorem mIn_1 {cf : Bool} {r b : UInt64} (h : Deq r 0) : mIn cf r b = false := decide_eq_false (fun z => z.1 h)
theorem mIn_2 {cf : Bool} {r b : UInt64} (h : Deq b 0) : mIn cf r b = false := decide_eq_false (fun z => z.2.1 h)
theorem mIn_3 {cf : Bool} {r b v : UInt64} (hv : sBound cf = v) (h : ¬ Dle (FP.ddiv r b) v) : mIn cf r b = false := decide_eq_false (fun z => h (hv ▸ z.2.2.1))
theorem mIn_4 {cf : Bool} {r b v : UInt64} (hv : sBound cf = v) (h : ¬ Dge (FP.dmul (FP.ddiv r b) v) FP.dconst1) : mIn cf r b = false := decide_eq_false (fun z => h (hv ▸ z.2.2.2))
theorem mIn_t {cf : Bool} {r b v : UInt64} (hv : sBound cf = v) (h1 : ¬ Deq r 0) (h2 : ¬ Deq b 0) (h3 : Dle (FP.ddiv r b) v) (h4 : Dge (FP.dmul (FP.ddiv r b) v) FP.dconst1) : mIn cf r b = true := by
  subst hv
  exact decide_eq_true ⟨h1, h2, h3, h4⟩
def nnMin (cf : Bool) (r b : UInt64) : Prop := ¬ Deq r 0 → ¬ Deq b 0 → vf_n64 (FP.ddiv r b) ∧ vf_n64 (FP.dmul (FP.ddiv r b) (sBound cf))
theorem in_c_X7_matches_RX7 : ∀ w ∈ wsX70, w ∈ wsX7_matches := by decide +kernel
set_option maxHeartbeats 4000000 in
set_option maxRecDepth 100000 in
theorem c_X7_matches (l : Launch) {D : va_G} {y : Nat → Nat} {ws : va_W} {x_mod_0 : Value} {x_mod_1 : Value} {x_mod_2 : Value} {x_mod_3 : Value} {x_mod_4 : Value} {x_mod_5 : Value} {x_mod_6 : Value} {x_mod_7 : Value} {x_mod_14 : Value} {x_mod_15 : Value} {x_mod_16 : Value} {x_mod_18 : Value} {x_mod_19 : Value} {x_mod_20 : Value} {x_mod_21 : Value} {x_mod_22 : Value} {x_mod_23 : Value} {x_mod_24 : Value} {x_mod_25 : Value} {x_mod_26 : Value} {x_mod_27 : Value} {x_mod_28 : Value} {x_mod_29 : Value} {x_mod_30 : Value} {x_mod_31 : Value} {x_mod_32 : Value} {p_mod p_mce p_mgm p_mfx p_mcf p_mlc p_mlg p_mpr a_mod a_mce a_mgm a_mfx a_mcf a_mlc a_mlg a_mpr : Nat} {mce : Nat → Nat} {mgm : Nat → Nat} {mfx : Nat → Nat} {mcf : Nat → Bool} {mlc : Nat → Nat} {mlg : Nat → Nat} {mpr : Nat → UInt64} {t i o sd : Nat} (f0_mod : ws[p_mod]? = some (a_mod, .inr (8, x_mod_0 :: x_mod_1 :: x_mod_2 :: x_mod_3 :: x_mod_4 :: x_mod_5 :: x_mod_6 :: x_mod_7 :: .ref a_mce :: .ref a_mgm :: .ref a_mfx :: .ref a_mcf :: .ref a_mlc :: .ref a_mlg :: x_mod_14 :: x_mod_15 :: x_mod_16 :: .ref a_mpr :: x_mod_18 :: x_mod_19 :: x_mod_20 :: x_mod_21 :: x_mod_22 :: x_mod_23 :: x_mod_24 :: x_mod_25 :: x_mod_26 :: x_mod_27 :: x_mod_28 :: x_mod_29 :: x_mod_30 :: x_mod_31 :: x_mod_32 :: []))) (f0_mce : ws[p_mce]? = some (a_mce, eN y 1152 mce)) (f0_mgm : ws[p_mgm]? = some (a_mgm, eN y 1152 mgm)) (f0_mfx : ws[p_mfx]? = some (a_mfx, eN y 1152 mfx)) (f0_mcf : ws[p_mcf]? = some (a_mcf, eZ y 1152 mcf)) (f0_mlc : ws[p_mlc]? = some (a_mlc, eN y 1152 mlc)) (f0_mlg : ws[p_mlg]? = some (a_mlg, eN y 1152 mlg)) (f0_mpr : ws[p_mpr]? = some (a_mpr, eD y 2304 mpr)) (b_mce : ∀ k, mce k ≤ 100000) (b_mgm : ∀ k, mgm k ≤ 10000) (b_mfx : ∀ k, mfx k ≤ 100000) (b_mlc : ∀ k, mlc k ≤ 100000) (b_mlg : ∀ k, mlg k ≤ 10000) (ht : t < 24) (hi : i < 12) (ho : o < 4) (hsd : sd ≤ 1) (hgm : ∀ k, mgm k = 0 → mce k = 0 ∧ mfx k = 0) (hlg : ∀ k, mlg k = 0 → mlc k = 0) (hnn : nnMin (mcf (48 * t + 4 * i + o)) (mRate (rCw sd mfx mce) mgm (48 * t + 4 * i + o)) (mBase mlc mlg mpr t i o sd)) : gMi l yX7_matches wsX7_matches ({ frames := 2, cells := 0, slots := 0, locals := 47 }) D y [.ref a_mod, .int (nI (t)), .int (nI (i)), .int (nI (o)), .int (nI (sd))] ws (fun r (_ : Unit) => r = gb (mIn (mcf (48 * t + 4 * i + o)) (mRate (rCw sd mfx mce) mgm (48 * t + 4 * i + o)) (mBase mlc mlg mpr t i o sd))) (fun (_ : Unit) => ws) := by
  refine g_met_z (cc := cX7_matches) (maxL := 13) (by decide) rfl (Nat.le_of_ble_eq_true rfl) ?_
  intro p e s m below meth c A hx hb hml hr hts hown hnm hlocks hE hP hD hS hA ls hl
  have hown : s.vm.findClass RX7 = some m.cls := hown
  have hl : lv_has ls 13 [(0, .ref a_mod), (1, .int (nI (t))), (2, .int (nI (i))), (3, .int (nI (o))), (4, .int (nI (sd)))] := hl
  have in_RX7 := in_c_X7_matches_RX7
  refine lv_aload_n hx hb dX7_matches_0 rfl (lv_at hl 0 rfl) ?_
  refine lv_iload_n hx hb dX7_matches_1 rfl (lv_at hl 1 rfl) ?_
  refine lv_iload_n hx hb dX7_matches_2 rfl (lv_at hl 2 rfl) ?_
  refine lv_iload_n hx hb dX7_matches_3 rfl (lv_at hl 3 rfl) ?_
  refine gc_S_i (As := [.int (nI (t)), .int (nI (i)), .int (nI (o))]) (rest := [.ref a_mod]) (c_X7_cell l) ⟨hx, hb, hml, hown, hts⟩ (va_cwS 3 hts gX7_matches_X7_cell rfl rfl rfl (by decide +kernel) ⟨Nat.le_of_ble_eq_true rfl, Nat.le_of_ble_eq_true rfl⟩) hE hP hD hS hA rfl rfl hl.1 (Nat.le_of_ble_eq_true rfl) dX7_matches_4 ⟨Nat.le_of_ble_eq_true rfl, Nat.le_of_ble_eq_true rfl⟩ (fun r_4 u_4 H locs hP hD hS q_4 => ?_)
  subst q_4
  refine lv_iload hx hb dX7_matches_7 (lv_at hl 4 rfl) ?_
  refine gc_V_d (As := [.int (nI (48 * (t) + 4 * (i) + (o))), .int (nI (sd))]) (rest := []) (c_X7_rate l f0_mod f0_mce f0_mgm f0_mfx b_mce b_mgm b_mfx (by omega) hsd (hgm _)) ⟨hx, hb, hml, hown, hts⟩ (cwV 2 hts gX7_matches_X7_rate rfl rfl rfl (by decide +kernel) ⟨Nat.le_of_ble_eq_true rfl, Nat.le_of_ble_eq_true rfl⟩) hE hP hD hS hA _ f0_mod rfl rfl rfl rfl hl.1 (Nat.le_of_ble_eq_true rfl) dX7_matches_9 ⟨Nat.le_of_ble_eq_true rfl, Nat.le_of_ble_eq_true rfl⟩ (fun r_9 u_9 H locs hP hD hS q_9 => ?_)
  subst q_9
  refine lv_dstore (lv' := [(5, .double (mRate (rCw (sd) mfx mce) mgm (48 * (t) + 4 * (i) + (o)))), (0, .ref a_mod), (1, .int (nI (t))), (2, .int (nI (i))), (3, .int (nI (o))), (4, .int (nI (sd)))]) hx hb dX7_matches_12 hl (by decide) rfl (fun ls hl => ?_)
  refine lv_aload_n hx hb dX7_matches_14 rfl (lv_at hl 1 rfl) ?_
  refine lv_iload_n hx hb dX7_matches_15 rfl (lv_at hl 2 rfl) ?_
  refine lv_iload_n hx hb dX7_matches_16 rfl (lv_at hl 3 rfl) ?_
  refine lv_iload_n hx hb dX7_matches_17 rfl (lv_at hl 4 rfl) ?_
  refine lv_iload hx hb dX7_matches_18 (lv_at hl 5 rfl) ?_
  refine gc_V_d (As := [.int (nI (t)), .int (nI (i)), .int (nI (o)), .int (nI (sd))]) (rest := []) (c_X7_base l f0_mod f0_mlc f0_mlg f0_mpr b_mlc b_mlg ht hi ho hsd hlg) ⟨hx, hb, hml, hown, hts⟩ (cwV 4 hts gX7_matches_X7_base rfl rfl rfl (by decide +kernel) ⟨Nat.le_of_ble_eq_true rfl, Nat.le_of_ble_eq_true rfl⟩) hE hP hD hS hA _ f0_mod rfl rfl rfl rfl hl.1 (Nat.le_of_ble_eq_true rfl) dX7_matches_20 ⟨Nat.le_of_ble_eq_true rfl, Nat.le_of_ble_eq_true rfl⟩ (fun r_20 u_20 H locs hP hD hS q_20 => ?_)
  subst q_20
  refine lv_dstore (lv' := [(7, .double (mBase mlc mlg mpr (t) (i) (o) (sd))), (5, .double (mRate (rCw (sd) mfx mce) mgm (48 * (t) + 4 * (i) + (o)))), (0, .ref a_mod), (1, .int (nI (t))), (2, .int (nI (i))), (3, .int (nI (o))), (4, .int (nI (sd)))]) hx hb dX7_matches_23 hl (by decide) rfl (fun ls hl => ?_)
  refine lv_dload hx hb dX7_matches_25 (lv_at hl 1 rfl) ?_
  refine g_dconst0 hx hb dX7_matches_27 ?_
  refine g_dcmpl_eq (tgt := 39) hx hb dX7_matches_28 dX7_matches_29 (by decide) (fun c_28 => ?_) (fun c_28 => ?_)
  · refine lv_iconst (v := nI 0) hx hb dX7_matches_39 (by decide) ?_
    refine g_zret (r := (gb (false))) hx hb hr hlocks () dX7_matches_40 (gb_narrow _) hS hP hD ?_
    rw [mIn_1 c_28]
  · refine lv_dload hx hb dX7_matches_32 (lv_at hl 0 rfl) ?_
    refine g_dconst0 hx hb dX7_matches_34 ?_
    refine g_dcmpl_ne (tgt := 41) hx hb dX7_matches_35 dX7_matches_36 (by decide) (fun c_35 => ?_) (fun c_35 => ?_)
    · refine lv_dload hx hb dX7_matches_41 (lv_at hl 1 rfl) ?_
      refine lv_dload hx hb dX7_matches_43 (lv_at hl 0 rfl) ?_
      refine lv_ddiv hx hb dX7_matches_45 (hnn c_28 c_35).1 ?_
      refine lv_dstore (lv' := [(9, .double (FP.ddiv (mRate (rCw (sd) mfx mce) mgm (48 * (t) + 4 * (i) + (o))) (mBase mlc mlg mpr (t) (i) (o) (sd)))), (7, .double (mBase mlc mlg mpr (t) (i) (o) (sd))), (5, .double (mRate (rCw (sd) mfx mce) mgm (48 * (t) + 4 * (i) + (o)))), (0, .ref a_mod), (1, .int (nI (t))), (2, .int (nI (i))), (3, .int (nI (o))), (4, .int (nI (sd)))]) hx hb dX7_matches_46 hl (by decide) rfl (fun ls hl => ?_)
      refine lv_aload_n hx hb dX7_matches_48 rfl (lv_at hl 3 rfl) ?_
      refine va_get (D := D) (ci := 8) (v := .ref a_mcf) (C := RX7) (T := TX7) (N := 33) hx hb hts in_RX7 hown hE.1 (gv1 hP f0_mod) 0 rfl rfl 11 (by decide) (hts (.fieldLink RX7 28 "BasketryOfficeModel" "isConfirmed" "[Z") (by decide +kernel)) (fun _ h9 => h9) rfl dX7_matches_49 ?_
      refine lv_iload_n hx hb dX7_matches_52 rfl (lv_at hl 4 rfl) ?_
      refine lv_iload_n hx hb dX7_matches_53 rfl (lv_at hl 5 rfl) ?_
      refine lv_iload_n hx hb dX7_matches_54 rfl (lv_at hl 6 rfl) ?_
      refine gc_S_i (As := [.int (nI (t)), .int (nI (i)), .int (nI (o))]) (rest := [.ref a_mcf]) (c_X7_cell l) ⟨hx, hb, hml, hown, hts⟩ (va_cwS 3 hts gX7_matches_X7_cell rfl rfl rfl (by decide +kernel) ⟨Nat.le_of_ble_eq_true rfl, Nat.le_of_ble_eq_true rfl⟩) hE hP hD hS hA rfl rfl hl.1 (Nat.le_of_ble_eq_true rfl) dX7_matches_55 ⟨Nat.le_of_ble_eq_true rfl, Nat.le_of_ble_eq_true rfl⟩ (fun r_55 u_55 H locs hP hD hS q_55 => ?_)
      subst q_55
      refine g_zald hx hb hE hP _ f0_mcf (by omega) (by decide) dX7_matches_58 ?_
      refine g_bif_eq (tgt := 68) hx hb dX7_matches_59 (by decide) (fun c_59 => ?_) (fun c_59 => ?_)
      · refine lv_ldc2d (v := 4613937818241073152) hx hb hown (hts (.constantDouble RX7 137 (4613937818241073152)) (by decide +kernel)) dX7_matches_68 ?_
        have hs := sB_f c_59
        refine lv_dstore (lv' := [(11, .double 4613937818241073152), (9, .double (FP.ddiv (mRate (rCw (sd) mfx mce) mgm (48 * (t) + 4 * (i) + (o))) (mBase mlc mlg mpr (t) (i) (o) (sd)))), (7, .double (mBase mlc mlg mpr (t) (i) (o) (sd))), (5, .double (mRate (rCw (sd) mfx mce) mgm (48 * (t) + 4 * (i) + (o)))), (0, .ref a_mod), (1, .int (nI (t))), (2, .int (nI (i))), (3, .int (nI (o))), (4, .int (nI (sd)))]) hx hb dX7_matches_71 hl (by decide) rfl (fun ls hl => ?_)
        refine lv_dload hx hb dX7_matches_73 (lv_at hl 1 rfl) ?_
        refine lv_dload hx hb dX7_matches_75 (lv_at hl 0 rfl) ?_
        refine g_dcmpg_gt (tgt := 95) hx hb dX7_matches_77 dX7_matches_78 (by decide) (fun c_77 => ?_) (fun c_77 => ?_)
        · refine lv_iconst (v := nI 0) hx hb dX7_matches_95 (by decide) ?_
          refine g_zret (r := (gb (false))) hx hb hr hlocks () dX7_matches_96 (gb_narrow _) hS hP hD ?_
          rw [mIn_3 hs c_77]
        · refine lv_dload hx hb dX7_matches_81 (lv_at hl 1 rfl) ?_
          refine lv_dload hx hb dX7_matches_83 (lv_at hl 0 rfl) ?_
          refine lv_dmul hx hb dX7_matches_85 (hs ▸ (hnn c_28 c_35).2) ?_
          refine lv_dconst1 hx hb dX7_matches_86 ?_
          refine g_dcmpl_lt (tgt := 95) hx hb dX7_matches_87 dX7_matches_88 (by decide) (fun c_87 => ?_) (fun c_87 => ?_)
          · refine lv_iconst (v := nI 0) hx hb dX7_matches_95 (by decide) ?_
            refine g_zret (r := (gb (false))) hx hb hr hlocks () dX7_matches_96 (gb_narrow _) hS hP hD ?_
            rw [mIn_4 hs c_87]
          · refine lv_iconst (v := nI 1) hx hb dX7_matches_91 (by decide) ?_
            refine lv_goto (tgt := 96) hx hb dX7_matches_92 (by decide) ?_
            refine g_zret (r := (gb (true))) hx hb hr hlocks () dX7_matches_96 (gb_narrow _) hS hP hD ?_
            rw [mIn_t hs c_28 c_35 c_77 c_87]
      · refine lv_ldc2d (v := 4629137466983448576) hx hb hown (hts (.constantDouble RX7 135 (4629137466983448576)) (by decide +kernel)) dX7_matches_62 ?_
        refine lv_goto (tgt := 71) hx hb dX7_matches_65 (by decide) ?_
        have hs := sB_t c_59
        refine lv_dstore (lv' := [(11, .double 4629137466983448576), (9, .double (FP.ddiv (mRate (rCw (sd) mfx mce) mgm (48 * (t) + 4 * (i) + (o))) (mBase mlc mlg mpr (t) (i) (o) (sd)))), (7, .double (mBase mlc mlg mpr (t) (i) (o) (sd))), (5, .double (mRate (rCw (sd) mfx mce) mgm (48 * (t) + 4 * (i) + (o)))), (0, .ref a_mod), (1, .int (nI (t))), (2, .int (nI (i))), (3, .int (nI (o))), (4, .int (nI (sd)))]) hx hb dX7_matches_71 hl (by decide) rfl (fun ls hl => ?_)
        refine lv_dload hx hb dX7_matches_73 (lv_at hl 1 rfl) ?_
        refine lv_dload hx hb dX7_matches_75 (lv_at hl 0 rfl) ?_
        refine g_dcmpg_gt (tgt := 95) hx hb dX7_matches_77 dX7_matches_78 (by decide) (fun c_77 => ?_) (fun c_77 => ?_)
        · refine lv_iconst (v := nI 0) hx hb dX7_matches_95 (by decide) ?_
          refine g_zret (r := (gb (false))) hx hb hr hlocks () dX7_matches_96 (gb_narrow _) hS hP hD ?_
          rw [mIn_3 hs c_77]
        · refine lv_dload hx hb dX7_matches_81 (lv_at hl 1 rfl) ?_
          refine lv_dload hx hb dX7_matches_83 (lv_at hl 0 rfl) ?_
          refine lv_dmul hx hb dX7_matches_85 (hs ▸ (hnn c_28 c_35).2) ?_
          refine lv_dconst1 hx hb dX7_matches_86 ?_
          refine g_dcmpl_lt (tgt := 95) hx hb dX7_matches_87 dX7_matches_88 (by decide) (fun c_87 => ?_) (fun c_87 => ?_)
          · refine lv_iconst (v := nI 0) hx hb dX7_matches_95 (by decide) ?_
            refine g_zret (r := (gb (false))) hx hb hr hlocks () dX7_matches_96 (gb_narrow _) hS hP hD ?_
            rw [mIn_4 hs c_87]
          · refine lv_iconst (v := nI 1) hx hb dX7_matches_91 (by decide) ?_
            refine lv_goto (tgt := 96) hx hb dX7_matches_92 (by decide) ?_
            refine g_zret (r := (gb (true))) hx hb hr hlocks () dX7_matches_96 (gb_narrow _) hS hP hD ?_
            rw [mIn_t hs c_28 c_35 c_77 c_87]
    · refine lv_iconst (v := nI 0) hx hb dX7_matches_39 (by decide) ?_
      refine g_zret (r := (gb (false))) hx hb hr hlocks () dX7_matches_40 (gb_narrow _) hS hP hD ?_
      rw [mIn_2 c_35]
