theorem mhN_p {ad : Nat → Nat} {kd : Nat} (h1 : kd = 1) (h : mAl ad kd 3 ≠ 0) : 0 < mhN ad 3 := by
  subst h1
  rw [mAl_lo (by omega)] at h
  have : mhN ad 3 ≠ 0 := fun z => h ((mhN_zw (ad := ad) (j := 3)).mp z)
  omega
theorem in_c_X7_shareOf_RX7 : ∀ w ∈ wsX70, w ∈ wsX7_shareOf := by decide +kernel
set_option maxHeartbeats 4000000 in
set_option maxRecDepth 100000 in
theorem c_X7_shareOf (l : Launch) {D : va_G} {y : Nat → Nat} {ws : va_W} {x_mod_0 : Value} {x_mod_1 : Value} {x_mod_2 : Value} {x_mod_3 : Value} {x_mod_4 : Value} {x_mod_5 : Value} {x_mod_6 : Value} {x_mod_7 : Value} {x_mod_8 : Value} {x_mod_9 : Value} {x_mod_10 : Value} {x_mod_11 : Value} {x_mod_12 : Value} {x_mod_13 : Value} {x_mod_14 : Value} {x_mod_15 : Value} {x_mod_17 : Value} {x_mod_18 : Value} {x_mod_19 : Value} {x_mod_20 : Value} {x_mod_21 : Value} {x_mod_22 : Value} {x_mod_23 : Value} {x_mod_24 : Value} {x_mod_25 : Value} {x_mod_26 : Value} {x_mod_27 : Value} {x_mod_28 : Value} {x_mod_29 : Value} {x_mod_30 : Value} {x_mod_31 : Value} {x_mod_32 : Value} {p_mod p_msp a_mod a_msp : Nat} {msp : Nat → Nat} {kd g t : Nat} (f0_mod : ws[p_mod]? = some (a_mod, .inr (8, x_mod_0 :: x_mod_1 :: x_mod_2 :: x_mod_3 :: x_mod_4 :: x_mod_5 :: x_mod_6 :: x_mod_7 :: x_mod_8 :: x_mod_9 :: x_mod_10 :: x_mod_11 :: x_mod_12 :: x_mod_13 :: x_mod_14 :: x_mod_15 :: .ref a_msp :: x_mod_17 :: x_mod_18 :: x_mod_19 :: x_mod_20 :: x_mod_21 :: x_mod_22 :: x_mod_23 :: x_mod_24 :: x_mod_25 :: x_mod_26 :: x_mod_27 :: x_mod_28 :: x_mod_29 :: x_mod_30 :: x_mod_31 :: x_mod_32 :: []))) (f0_msp : ws[p_msp]? = some (a_msp, eN y 288 msp)) (b_msp : ∀ k, msp k ≤ 1000000000) (hkd : kd < 5) (hg : g < 4) (ht : t < 24) (hnn : nnShM (fun k => msp (12 * t + k)) g) : gMd l yX7_shareOf wsX7_shareOf ({ frames := 0, cells := 0, slots := 0, locals := 0 }) D y [.ref a_mod, .int (nI (kd)), .int (nI (g)), .int (nI (t))] ws (fun r (_ : Unit) => r = mShr (fun k => msp (12 * t + k)) kd g) (fun (_ : Unit) => ws) := by
  refine g_met_d (cc := cX7_shareOf) (maxL := 15) (by decide) rfl (Nat.le_of_ble_eq_true rfl) ?_
  intro p e s m below meth c A hx hb hml hr hts hown hnm hlocks hE hP hD hS hA ls hl
  have hown : s.vm.findClass RX7 = some m.cls := hown
  have hl : lv_has ls 15 [(0, .ref a_mod), (1, .int (nI (kd))), (2, .int (nI (g))), (3, .int (nI (t)))] := hl
  have in_RX7 := in_c_X7_shareOf_RX7
  refine lv_lconst (v := lN 0) hx hb dX7_shareOf_0 (by decide) ?_
  refine lv_lstore (lv' := [(4, .long (lN (0))), (0, .ref a_mod), (1, .int (nI (kd))), (2, .int (nI (g))), (3, .int (nI (t)))]) hx hb dX7_shareOf_1 hl (by decide) rfl (fun ls hl => ?_)
  refine lv_lconst (v := lN 0) hx hb dX7_shareOf_3 (by decide) ?_
  refine lv_lstore (lv' := [(6, .long (lN (0))), (4, .long (lN (0))), (0, .ref a_mod), (1, .int (nI (kd))), (2, .int (nI (g))), (3, .int (nI (t)))]) hx hb dX7_shareOf_4 hl (by decide) rfl (fun ls hl => ?_)
  refine lv_iconst (v := nI 0) hx hb dX7_shareOf_6 (by decide) ?_
  refine lv_istore (lv' := [(8, .int (nI (0))), (6, .long (lN (0))), (4, .long (lN (0))), (0, .ref a_mod), (1, .int (nI (kd))), (2, .int (nI (g))), (3, .int (nI (t)))]) hx hb dX7_shareOf_7 hl (by decide) rfl (fun ls hl => ?_)
  refine g_dconst0 hx hb dX7_shareOf_9 ?_
  refine lv_dstore (lv' := [(9, .double 0), (8, .int (nI (0))), (6, .long (lN (0))), (4, .long (lN (0))), (0, .ref a_mod), (1, .int (nI (kd))), (2, .int (nI (g))), (3, .int (nI (t)))]) hx hb dX7_shareOf_10 hl (by decide) rfl (fun ls hl => ?_)
  refine lv_iconst (v := nI 0) hx hb dX7_shareOf_12 (by decide) ?_
  refine lv_istore (lv' := [(11, .int (nI (0))), (9, .double 0), (8, .int (nI (0))), (6, .long (lN (0))), (4, .long (lN (0))), (0, .ref a_mod), (1, .int (nI (kd))), (2, .int (nI (g))), (3, .int (nI (t)))]) hx hb dX7_shareOf_13 hl (by decide) rfl (fun ls hl => ?_)
  have hP : gvP D vwCl ws _ := g_trP (rfl) hP
  have hD : gvD A ws := g_trD (rfl) hD
  refine g_for (fun j => ws) (fun j => [(0, .ref a_mod), (1, .int (nI (kd))), (2, .int (nI (g))), (3, .int (nI (t))), (4, .long (lN (mAl (fun k => msp (12 * t + k)) kd (j)))), (6, .long (lN (mPt (fun k => msp (12 * t + k)) kd g (j)))), (8, .int (nI (mhN (fun k => msp (12 * t + k)) (j)))), (9, .double (mhS (fun k => msp (12 * t + k)) g (j))), (11, .int (nI (j)))]) (3) (0) (by omega) ?_ ?_ hP hD hS (lv_sub hl [5, 6, 7, 8, 4, 3, 2, 1, 0] rfl)
  · intro H locs ls hP hD hS hl
    have hP : gvP D vwCl ws H := hP
    have hD : gvD A ws := hD
    have hl : lv_has ls 15 [(0, .ref a_mod), (1, .int (nI (kd))), (2, .int (nI (g))), (3, .int (nI (t))), (4, .long (lN (mAl (fun k => msp (12 * t + k)) kd (3)))), (6, .long (lN (mPt (fun k => msp (12 * t + k)) kd g (3)))), (8, .int (nI (mhN (fun k => msp (12 * t + k)) (3)))), (9, .double (mhS (fun k => msp (12 * t + k)) g (3))), (11, .int (nI (3)))] := hl
    refine lv_iload hx hb dX7_shareOf_15 (lv_at hl 8 rfl) ?_
    refine lv_iconst (v := nI 3) hx hb dX7_shareOf_17 (by decide) ?_
    refine g_icmp_ge (tgt := 171) hx hb (by omega) (by omega) dX7_shareOf_18 (by decide) (fun c_18 => ?_) (fun c_18 => absurd c_18 (by omega))
    refine lv_lload hx hb dX7_shareOf_171 (lv_at hl 4 rfl) ?_
    refine lv_lconst (v := lN 0) hx hb dX7_shareOf_173 (by decide) ?_
    refine g_lcmp_ne (tgt := 184) hx hb (by have := mAl_le (ad := (fun k => msp (12 * t + k))) (B := 1000000000) (fun k => b_msp (12 * t + k)) kd 3; omega) (by decide) dX7_shareOf_174 dX7_shareOf_175 (by decide) (fun c_174 => ?_) (fun c_174 => ?_)
    · refine lv_iload_n hx hb dX7_shareOf_184 rfl (lv_at hl 1 rfl) ?_
      refine lv_iconst (v := nI 1) hx hb dX7_shareOf_185 (by decide) ?_
      refine g_icmp_ne (tgt := 198) hx hb (by omega) (by omega) dX7_shareOf_186 (by decide) (fun c_186 => ?_) (fun c_186 => ?_)
      · refine lv_lload hx hb dX7_shareOf_198 (lv_at hl 5 rfl) ?_
        refine lv_l2d hx hb dX7_shareOf_200 ?_
        refine lv_lload hx hb dX7_shareOf_201 (lv_at hl 4 rfl) ?_
        refine lv_l2d hx hb dX7_shareOf_203 ?_
        refine lv_ddiv hx hb dX7_shareOf_204 (fp_shareL _ c_174 (by have := mAl_le (ad := (fun k => msp (12 * t + k))) (B := 1000000000) (fun k => b_msp (12 * t + k)) kd 3; omega)) ?_
        refine g_dret hx hb hr hlocks () dX7_shareOf_205 hS hP hD ?_
        exact (mShr_d hkd (fun k => b_msp (12 * t + k)) c_186 c_174).symm
      · refine lv_dload hx hb dX7_shareOf_189 (lv_at hl 7 rfl) ?_
        refine lv_iload hx hb dX7_shareOf_191 (lv_at hl 6 rfl) ?_
        refine lv_i2d hx hb dX7_shareOf_193 ?_
        refine lv_ddiv hx hb dX7_shareOf_194 (hnn.2 (mhN_p c_186 c_174)) ?_
        refine lv_goto (tgt := 205) hx hb dX7_shareOf_195 (by decide) ?_
        refine g_dret hx hb hr hlocks () dX7_shareOf_205 hS hP hD ?_
        exact (mShr_1 c_186 c_174).symm
    · refine lv_ldc2d (v := 4598175219545276416) hx hb hown (hts (.constantDouble RX7 147 (4598175219545276416)) (by decide +kernel)) dX7_shareOf_178 ?_
      refine lv_goto (tgt := 205) hx hb dX7_shareOf_181 (by decide) ?_
      refine g_dret hx hb hr hlocks () dX7_shareOf_205 hS hP hD ?_
      exact (mShr_z hkd c_174).symm
  · intro j hj_j ih_j H locs ls hP hD hS hl
    have hP : gvP D vwCl ws H := hP
    have hD : gvD A ws := hD
    have hl : lv_has ls 15 [(0, .ref a_mod), (1, .int (nI (kd))), (2, .int (nI (g))), (3, .int (nI (t))), (4, .long (lN (mAl (fun k => msp (12 * t + k)) kd (j)))), (6, .long (lN (mPt (fun k => msp (12 * t + k)) kd g (j)))), (8, .int (nI (mhN (fun k => msp (12 * t + k)) (j)))), (9, .double (mhS (fun k => msp (12 * t + k)) g (j))), (11, .int (nI (j)))] := hl
    refine lv_iload hx hb dX7_shareOf_15 (lv_at hl 8 rfl) ?_
    refine lv_iconst (v := nI 3) hx hb dX7_shareOf_17 (by decide) ?_
    refine g_icmp_ge (tgt := 171) hx hb (by omega) (by omega) dX7_shareOf_18 (by decide) (fun c_18 => absurd c_18 (by omega)) (fun c_18 => ?_)
    refine lv_lconst (v := lN 0) hx hb dX7_shareOf_21 (by decide) ?_
    refine lv_lstore (lv' := [(12, .long (lN (0))), (0, .ref a_mod), (1, .int (nI (kd))), (2, .int (nI (g))), (3, .int (nI (t))), (4, .long (lN (mAl (fun k => msp (12 * t + k)) kd (j)))), (6, .long (lN (mPt (fun k => msp (12 * t + k)) kd g (j)))), (8, .int (nI (mhN (fun k => msp (12 * t + k)) (j)))), (9, .double (mhS (fun k => msp (12 * t + k)) g (j))), (11, .int (nI (j)))]) hx hb dX7_shareOf_22 hl (by decide) rfl (fun ls hl => ?_)
    refine lv_iconst (v := nI 0) hx hb dX7_shareOf_24 (by decide) ?_
    refine lv_istore (lv' := [(14, .int (nI (0))), (12, .long (lN (0))), (0, .ref a_mod), (1, .int (nI (kd))), (2, .int (nI (g))), (3, .int (nI (t))), (4, .long (lN (mAl (fun k => msp (12 * t + k)) kd (j)))), (6, .long (lN (mPt (fun k => msp (12 * t + k)) kd g (j)))), (8, .int (nI (mhN (fun k => msp (12 * t + k)) (j)))), (9, .double (mhS (fun k => msp (12 * t + k)) g (j))), (11, .int (nI (j)))]) hx hb dX7_shareOf_25 hl (by decide) rfl (fun ls hl => ?_)
    have hP : gvP D vwCl ws _ := g_trP (rfl) hP
    have hD : gvD A ws := g_trD (rfl) hD
    refine g_for (fun k => ws) (fun k => [(0, .ref a_mod), (1, .int (nI (kd))), (2, .int (nI (g))), (3, .int (nI (t))), (4, .long (lN (mAl (fun k => msp (12 * t + k)) kd (j)))), (6, .long (lN (mPt (fun k => msp (12 * t + k)) kd g (j)))), (8, .int (nI (mhN (fun k => msp (12 * t + k)) (j)))), (9, .double (mhS (fun k => msp (12 * t + k)) g (j))), (11, .int (nI (j))), (12, .long (lN (uS (fun k => msp (12 * t + k)) (j * 4) (k)))), (14, .int (nI (k)))]) (4) (0) (by omega) ?_ ?_ hP hD hS (lv_sub hl [2, 3, 4, 5, 6, 7, 8, 9, 10, 1, 0] rfl)
    · intro H locs ls hP hD hS hl
      have hP : gvP D vwCl ws H := hP
      have hD : gvD A ws := hD
      have hl : lv_has ls 15 [(0, .ref a_mod), (1, .int (nI (kd))), (2, .int (nI (g))), (3, .int (nI (t))), (4, .long (lN (mAl (fun k => msp (12 * t + k)) kd (j)))), (6, .long (lN (mPt (fun k => msp (12 * t + k)) kd g (j)))), (8, .int (nI (mhN (fun k => msp (12 * t + k)) (j)))), (9, .double (mhS (fun k => msp (12 * t + k)) g (j))), (11, .int (nI (j))), (12, .long (lN (uS (fun k => msp (12 * t + k)) (j * 4) (4)))), (14, .int (nI (4)))] := hl
      refine lv_iload hx hb dX7_shareOf_27 (lv_at hl 10 rfl) ?_
      refine lv_iconst (v := nI 4) hx hb dX7_shareOf_29 (by decide) ?_
      refine g_icmp_ge (tgt := 62) hx hb (by omega) (by omega) dX7_shareOf_30 (by decide) (fun c_30 => ?_) (fun c_30 => absurd c_30 (by omega))
      refine lv_iload_n hx hb dX7_shareOf_62 rfl (lv_at hl 1 rfl) ?_
      refine lv_iconst (v := nI 2) hx hb dX7_shareOf_63 (by decide) ?_
      refine g_icmp_lt (tgt := 75) hx hb (by omega) (by omega) dX7_shareOf_64 (by decide) (fun c_64 => ?_) (fun c_64 => ?_)
      · refine lv_iconst (v := nI 1) hx hb dX7_shareOf_75 (by decide) ?_
        refine lv_goto (tgt := 80) hx hb dX7_shareOf_76 (by decide) ?_
        refine lv_istore (lv' := [(14, .int (nI (1))), (0, .ref a_mod), (1, .int (nI (kd))), (2, .int (nI (g))), (3, .int (nI (t))), (4, .long (lN (mAl (fun k => msp (12 * t + k)) kd (j)))), (6, .long (lN (mPt (fun k => msp (12 * t + k)) kd g (j)))), (8, .int (nI (mhN (fun k => msp (12 * t + k)) (j)))), (9, .double (mhS (fun k => msp (12 * t + k)) g (j))), (11, .int (nI (j))), (12, .long (lN (uS (fun k => msp (12 * t + k)) (j * 4) (4))))]) hx hb dX7_shareOf_80 hl (by decide) rfl (fun ls hl => ?_)
        refine lv_lload hx hb dX7_shareOf_82 (lv_at hl 5 rfl) ?_
        refine lv_iload hx hb dX7_shareOf_84 (lv_at hl 0 rfl) ?_
        refine g_if_eq (tgt := 94) hx hb (by omega) dX7_shareOf_86 (by decide) (fun c_86 => absurd c_86 (by omega)) (fun c_86 => ?_)
        refine lv_lload hx hb dX7_shareOf_89 (lv_at hl 10 rfl) ?_
        refine lv_goto (tgt := 95) hx hb dX7_shareOf_91 (by decide) ?_
        refine g_ladd hx hb dX7_shareOf_95 (lN_add _ _) ?_
        refine lv_lstore (lv' := [(4, .long (lN ((mAl (fun k => msp (12 * t + k)) kd (j)) + (uS (fun k => msp (12 * t + k)) (j * 4) (4))))), (14, .int (nI (1))), (0, .ref a_mod), (1, .int (nI (kd))), (2, .int (nI (g))), (3, .int (nI (t))), (6, .long (lN (mPt (fun k => msp (12 * t + k)) kd g (j)))), (8, .int (nI (mhN (fun k => msp (12 * t + k)) (j)))), (9, .double (mhS (fun k => msp (12 * t + k)) g (j))), (11, .int (nI (j))), (12, .long (lN (uS (fun k => msp (12 * t + k)) (j * 4) (4))))]) hx hb dX7_shareOf_96 hl (by decide) rfl (fun ls hl => ?_)
        refine lv_lload hx hb dX7_shareOf_98 (lv_at hl 6 rfl) ?_
        refine lv_iload hx hb dX7_shareOf_100 (lv_at hl 1 rfl) ?_
        refine g_if_eq (tgt := 125) hx hb (by omega) dX7_shareOf_102 (by decide) (fun c_102 => absurd c_102 (by omega)) (fun c_102 => ?_)
        refine lv_aload_n hx hb dX7_shareOf_105 rfl (lv_at hl 2 rfl) ?_
        refine va_get (D := D) (ci := 8) (v := .ref a_msp) (C := RX7) (T := TX7) (N := 33) hx hb hts in_RX7 hown hE.1 (gv1 hP f0_mod) 0 rfl rfl 16 (by decide) (hts (.fieldLink RX7 44 "BasketryOfficeModel" "spent" "[I") (by decide +kernel)) (fun _ h9 => h9) rfl dX7_shareOf_106 ?_
        refine lv_bipush (v := nI 12) hx hb dX7_shareOf_109 (by decide) ?_
        refine lv_iload_n hx hb dX7_shareOf_111 rfl (lv_at hl 5 rfl) ?_
        refine g_imul hx hb dX7_shareOf_112 (pk_mul _ _) ?_
        refine lv_iconst (v := nI 4) hx hb dX7_shareOf_113 (by decide) ?_
        refine lv_iload hx hb dX7_shareOf_114 (lv_at hl 9 rfl) ?_
        refine g_imul hx hb dX7_shareOf_116 (pk_mul _ _) ?_
        refine g_iadd hx hb dX7_shareOf_117 (nI_add _ _) ?_
        refine lv_iload_n hx hb dX7_shareOf_118 rfl (lv_at hl 4 rfl) ?_
        refine g_iadd hx hb dX7_shareOf_119 (nI_add _ _) ?_
        refine g_nald hx hb hE hP _ f0_msp (by omega) (by decide) dX7_shareOf_120 ?_
        have bd_120_1 := b_msp (((12 * t) + (4 * j)) + g)
        refine g_iv (v' := nI (msp (12 * t + (j * 4 + g)))) (by rw [show 12 * t + 4 * j + g = 12 * t + (j * 4 + g) by omega]) ?_
        have bd9 := b_msp (12 * t + (j * 4 + g))
        refine lv_i2l (v := lN (msp (12 * t + (j * 4 + g)))) hx hb dX7_shareOf_121 (nI_l (by omega)) ?_
        refine lv_goto (tgt := 126) hx hb dX7_shareOf_122 (by decide) ?_
        refine g_ladd hx hb dX7_shareOf_126 (lN_add _ _) ?_
        refine lv_lstore (lv' := [(6, .long (lN ((mPt (fun k => msp (12 * t + k)) kd g (j)) + (msp (12 * t + (j * 4 + g)))))), (4, .long (lN ((mAl (fun k => msp (12 * t + k)) kd (j)) + (uS (fun k => msp (12 * t + k)) (j * 4) (4))))), (14, .int (nI (1))), (0, .ref a_mod), (1, .int (nI (kd))), (2, .int (nI (g))), (3, .int (nI (t))), (8, .int (nI (mhN (fun k => msp (12 * t + k)) (j)))), (9, .double (mhS (fun k => msp (12 * t + k)) g (j))), (11, .int (nI (j))), (12, .long (lN (uS (fun k => msp (12 * t + k)) (j * 4) (4))))]) hx hb dX7_shareOf_127 hl (by decide) rfl (fun ls hl => ?_)
        refine lv_lload hx hb dX7_shareOf_129 (lv_at hl 10 rfl) ?_
        refine lv_lconst (v := lN 0) hx hb dX7_shareOf_131 (by decide) ?_
        refine g_lcmp_le (tgt := 165) hx hb (by have := uS_le (f := (fun k => msp (12 * t + k))) (B := 1000000000) (fun k => b_msp (12 * t + k)) (j * 4) 4; omega) (by decide) dX7_shareOf_132 dX7_shareOf_133 (by decide) (fun c_132 => ?_) (fun c_132 => ?_)
        · refine lv_iinc (v := nI (j + 1)) (lv' := [(11, .int (nI (j + 1))), (6, .long (lN ((mPt (fun k => msp (12 * t + k)) kd g (j)) + (msp (12 * t + (j * 4 + g)))))), (4, .long (lN ((mAl (fun k => msp (12 * t + k)) kd (j)) + (uS (fun k => msp (12 * t + k)) (j * 4) (4))))), (14, .int (nI (1))), (0, .ref a_mod), (1, .int (nI (kd))), (2, .int (nI (g))), (3, .int (nI (t))), (8, .int (nI (mhN (fun k => msp (12 * t + k)) (j)))), (9, .double (mhS (fun k => msp (12 * t + k)) g (j))), (12, .long (lN (uS (fun k => msp (12 * t + k)) (j * 4) (4))))]) hx hb dX7_shareOf_165 hl (k := 9) rfl (nI_add _ 1) (by decide) rfl (fun ls hl => ?_)
          refine lv_goto (tgt := 15) hx hb dX7_shareOf_168 (by decide) ?_
          have hP : gvP D vwCl ws _ := g_trP (rfl) hP
          have hD : gvD A ws := g_trD (rfl) hD
          exact ih_j H locs ls hP hD hS (lv_sub hl [4, 5, 6, 7, 2, 1, 8, 9, 0] (by rw [mAl, mPt, if_pos (mCt_1 c_64), if_pos (mCt_1 c_64), mhS, mhN, if_neg (by omega), if_neg (by omega)]; rfl))
        · refine lv_iinc (v := nI (mhN (fun k => msp (12 * t + k)) (j) + 1)) (lv' := [(8, .int (nI (mhN (fun k => msp (12 * t + k)) (j) + 1))), (6, .long (lN ((mPt (fun k => msp (12 * t + k)) kd g (j)) + (msp (12 * t + (j * 4 + g)))))), (4, .long (lN ((mAl (fun k => msp (12 * t + k)) kd (j)) + (uS (fun k => msp (12 * t + k)) (j * 4) (4))))), (14, .int (nI (1))), (0, .ref a_mod), (1, .int (nI (kd))), (2, .int (nI (g))), (3, .int (nI (t))), (9, .double (mhS (fun k => msp (12 * t + k)) g (j))), (11, .int (nI (j))), (12, .long (lN (uS (fun k => msp (12 * t + k)) (j * 4) (4))))]) hx hb dX7_shareOf_136 hl (k := 7) rfl (nI_add _ 1) (by decide) rfl (fun ls hl => ?_)
          refine lv_dload hx hb dX7_shareOf_139 (lv_at hl 8 rfl) ?_
          refine lv_aload_n hx hb dX7_shareOf_141 rfl (lv_at hl 4 rfl) ?_
          refine va_get (D := D) (ci := 8) (v := .ref a_msp) (C := RX7) (T := TX7) (N := 33) hx hb hts in_RX7 hown hE.1 (gv1 hP f0_mod) 0 rfl rfl 16 (by decide) (hts (.fieldLink RX7 44 "BasketryOfficeModel" "spent" "[I") (by decide +kernel)) (fun _ h9 => h9) rfl dX7_shareOf_142 ?_
          refine lv_bipush (v := nI 12) hx hb dX7_shareOf_145 (by decide) ?_
          refine lv_iload_n hx hb dX7_shareOf_147 rfl (lv_at hl 7 rfl) ?_
          refine g_imul hx hb dX7_shareOf_148 (pk_mul _ _) ?_
          refine lv_iconst (v := nI 4) hx hb dX7_shareOf_149 (by decide) ?_
          refine lv_iload hx hb dX7_shareOf_150 (lv_at hl 9 rfl) ?_
          refine g_imul hx hb dX7_shareOf_152 (pk_mul _ _) ?_
          refine g_iadd hx hb dX7_shareOf_153 (nI_add _ _) ?_
          refine lv_iload_n hx hb dX7_shareOf_154 rfl (lv_at hl 6 rfl) ?_
          refine g_iadd hx hb dX7_shareOf_155 (nI_add _ _) ?_
          refine g_nald hx hb hE hP _ f0_msp (by omega) (by decide) dX7_shareOf_156 ?_
          have bd_156_2 := b_msp (((12 * t) + (4 * j)) + g)
          refine g_iv (v' := nI (msp (12 * t + (j * 4 + g)))) (by rw [show 12 * t + 4 * j + g = 12 * t + (j * 4 + g) by omega]) ?_
          have bd9 := b_msp (12 * t + (j * 4 + g))
          refine lv_i2d hx hb dX7_shareOf_157 ?_
          refine lv_lload hx hb dX7_shareOf_158 (lv_at hl 10 rfl) ?_
          refine lv_l2d hx hb dX7_shareOf_160 ?_
          refine lv_ddiv hx hb dX7_shareOf_161 (fp_shareI _ (by omega) (by have := uS_le (f := (fun k => msp (12 * t + k))) (B := 1000000000) (fun k => b_msp (12 * t + k)) (j * 4) 4; omega)) ?_
          refine g_dv (v' := sShH (fun k => msp (12 * t + k)) j g) (by rw [sShH, if_pos c_132]) ?_
          refine lv_dadd hx hb dX7_shareOf_162 (hnn.1 j hj_j) ?_
          refine lv_dstore (lv' := [(9, .double (FP.dadd (mhS (fun k => msp (12 * t + k)) g (j)) (sShH (fun k => msp (12 * t + k)) j g))), (8, .int (nI (mhN (fun k => msp (12 * t + k)) (j) + 1))), (6, .long (lN ((mPt (fun k => msp (12 * t + k)) kd g (j)) + (msp (12 * t + (j * 4 + g)))))), (4, .long (lN ((mAl (fun k => msp (12 * t + k)) kd (j)) + (uS (fun k => msp (12 * t + k)) (j * 4) (4))))), (14, .int (nI (1))), (0, .ref a_mod), (1, .int (nI (kd))), (2, .int (nI (g))), (3, .int (nI (t))), (11, .int (nI (j))), (12, .long (lN (uS (fun k => msp (12 * t + k)) (j * 4) (4))))]) hx hb dX7_shareOf_163 hl (by decide) rfl (fun ls hl => ?_)
          refine lv_iinc (v := nI (j + 1)) (lv' := [(11, .int (nI (j + 1))), (9, .double (FP.dadd (mhS (fun k => msp (12 * t + k)) g (j)) (sShH (fun k => msp (12 * t + k)) j g))), (8, .int (nI (mhN (fun k => msp (12 * t + k)) (j) + 1))), (6, .long (lN ((mPt (fun k => msp (12 * t + k)) kd g (j)) + (msp (12 * t + (j * 4 + g)))))), (4, .long (lN ((mAl (fun k => msp (12 * t + k)) kd (j)) + (uS (fun k => msp (12 * t + k)) (j * 4) (4))))), (14, .int (nI (1))), (0, .ref a_mod), (1, .int (nI (kd))), (2, .int (nI (g))), (3, .int (nI (t))), (12, .long (lN (uS (fun k => msp (12 * t + k)) (j * 4) (4))))]) hx hb dX7_shareOf_165 hl (k := 9) rfl (nI_add _ 1) (by decide) rfl (fun ls hl => ?_)
          refine lv_goto (tgt := 15) hx hb dX7_shareOf_168 (by decide) ?_
          have hP : gvP D vwCl ws _ := g_trP (rfl) hP
          have hD : gvD A ws := g_trD (rfl) hD
          exact ih_j H locs ls hP hD hS (lv_sub hl [6, 7, 8, 9, 4, 3, 2, 1, 0] (by rw [mAl, mPt, if_pos (mCt_1 c_64), if_pos (mCt_1 c_64), mhS, mhN, if_pos c_132, if_pos c_132]; rfl))
      · refine lv_iload_n hx hb dX7_shareOf_67 rfl (lv_at hl 1 rfl) ?_
        refine lv_iload hx hb dX7_shareOf_68 (lv_at hl 8 rfl) ?_
        refine lv_iconst (v := nI 2) hx hb dX7_shareOf_70 (by decide) ?_
        refine g_iadd hx hb dX7_shareOf_71 (nI_add _ _) ?_
        refine g_icmp_ne (tgt := 79) hx hb (by omega) (by omega) dX7_shareOf_72 (by decide) (fun c_72 => ?_) (fun c_72 => ?_)
        · refine lv_iconst (v := nI 0) hx hb dX7_shareOf_79 (by decide) ?_
          refine lv_istore (lv' := [(14, .int (nI (0))), (0, .ref a_mod), (1, .int (nI (kd))), (2, .int (nI (g))), (3, .int (nI (t))), (4, .long (lN (mAl (fun k => msp (12 * t + k)) kd (j)))), (6, .long (lN (mPt (fun k => msp (12 * t + k)) kd g (j)))), (8, .int (nI (mhN (fun k => msp (12 * t + k)) (j)))), (9, .double (mhS (fun k => msp (12 * t + k)) g (j))), (11, .int (nI (j))), (12, .long (lN (uS (fun k => msp (12 * t + k)) (j * 4) (4))))]) hx hb dX7_shareOf_80 hl (by decide) rfl (fun ls hl => ?_)
          refine lv_lload hx hb dX7_shareOf_82 (lv_at hl 5 rfl) ?_
          refine lv_iload hx hb dX7_shareOf_84 (lv_at hl 0 rfl) ?_
          refine g_if_eq (tgt := 94) hx hb (by omega) dX7_shareOf_86 (by decide) (fun c_86 => ?_) (fun c_86 => absurd c_86 (by omega))
          refine lv_lconst (v := lN 0) hx hb dX7_shareOf_94 (by decide) ?_
          refine g_ladd hx hb dX7_shareOf_95 (lN_add _ _) ?_
          refine lv_lstore (lv' := [(4, .long (lN ((mAl (fun k => msp (12 * t + k)) kd (j)) + (0)))), (14, .int (nI (0))), (0, .ref a_mod), (1, .int (nI (kd))), (2, .int (nI (g))), (3, .int (nI (t))), (6, .long (lN (mPt (fun k => msp (12 * t + k)) kd g (j)))), (8, .int (nI (mhN (fun k => msp (12 * t + k)) (j)))), (9, .double (mhS (fun k => msp (12 * t + k)) g (j))), (11, .int (nI (j))), (12, .long (lN (uS (fun k => msp (12 * t + k)) (j * 4) (4))))]) hx hb dX7_shareOf_96 hl (by decide) rfl (fun ls hl => ?_)
          refine lv_lload hx hb dX7_shareOf_98 (lv_at hl 6 rfl) ?_
          refine lv_iload hx hb dX7_shareOf_100 (lv_at hl 1 rfl) ?_
          refine g_if_eq (tgt := 125) hx hb (by omega) dX7_shareOf_102 (by decide) (fun c_102 => ?_) (fun c_102 => absurd c_102 (by omega))
          refine lv_lconst (v := lN 0) hx hb dX7_shareOf_125 (by decide) ?_
          refine g_ladd hx hb dX7_shareOf_126 (lN_add _ _) ?_
          refine lv_lstore (lv' := [(6, .long (lN ((mPt (fun k => msp (12 * t + k)) kd g (j)) + (0)))), (4, .long (lN ((mAl (fun k => msp (12 * t + k)) kd (j)) + (0)))), (14, .int (nI (0))), (0, .ref a_mod), (1, .int (nI (kd))), (2, .int (nI (g))), (3, .int (nI (t))), (8, .int (nI (mhN (fun k => msp (12 * t + k)) (j)))), (9, .double (mhS (fun k => msp (12 * t + k)) g (j))), (11, .int (nI (j))), (12, .long (lN (uS (fun k => msp (12 * t + k)) (j * 4) (4))))]) hx hb dX7_shareOf_127 hl (by decide) rfl (fun ls hl => ?_)
          refine lv_lload hx hb dX7_shareOf_129 (lv_at hl 10 rfl) ?_
          refine lv_lconst (v := lN 0) hx hb dX7_shareOf_131 (by decide) ?_
          refine g_lcmp_le (tgt := 165) hx hb (by have := uS_le (f := (fun k => msp (12 * t + k))) (B := 1000000000) (fun k => b_msp (12 * t + k)) (j * 4) 4; omega) (by decide) dX7_shareOf_132 dX7_shareOf_133 (by decide) (fun c_132 => ?_) (fun c_132 => ?_)
          · refine lv_iinc (v := nI (j + 1)) (lv' := [(11, .int (nI (j + 1))), (6, .long (lN ((mPt (fun k => msp (12 * t + k)) kd g (j)) + (0)))), (4, .long (lN ((mAl (fun k => msp (12 * t + k)) kd (j)) + (0)))), (14, .int (nI (0))), (0, .ref a_mod), (1, .int (nI (kd))), (2, .int (nI (g))), (3, .int (nI (t))), (8, .int (nI (mhN (fun k => msp (12 * t + k)) (j)))), (9, .double (mhS (fun k => msp (12 * t + k)) g (j))), (12, .long (lN (uS (fun k => msp (12 * t + k)) (j * 4) (4))))]) hx hb dX7_shareOf_165 hl (k := 9) rfl (nI_add _ 1) (by decide) rfl (fun ls hl => ?_)
            refine lv_goto (tgt := 15) hx hb dX7_shareOf_168 (by decide) ?_
            have hP : gvP D vwCl ws _ := g_trP (rfl) hP
            have hD : gvD A ws := g_trD (rfl) hD
            exact ih_j H locs ls hP hD hS (lv_sub hl [4, 5, 6, 7, 2, 1, 8, 9, 0] (by rw [mAl, mPt, if_neg (mCt_3 (by omega) c_72), if_neg (mCt_3 (by omega) c_72), mhS, mhN, if_neg (by omega), if_neg (by omega)]; rfl))
          · refine lv_iinc (v := nI (mhN (fun k => msp (12 * t + k)) (j) + 1)) (lv' := [(8, .int (nI (mhN (fun k => msp (12 * t + k)) (j) + 1))), (6, .long (lN ((mPt (fun k => msp (12 * t + k)) kd g (j)) + (0)))), (4, .long (lN ((mAl (fun k => msp (12 * t + k)) kd (j)) + (0)))), (14, .int (nI (0))), (0, .ref a_mod), (1, .int (nI (kd))), (2, .int (nI (g))), (3, .int (nI (t))), (9, .double (mhS (fun k => msp (12 * t + k)) g (j))), (11, .int (nI (j))), (12, .long (lN (uS (fun k => msp (12 * t + k)) (j * 4) (4))))]) hx hb dX7_shareOf_136 hl (k := 7) rfl (nI_add _ 1) (by decide) rfl (fun ls hl => ?_)
            refine lv_dload hx hb dX7_shareOf_139 (lv_at hl 8 rfl) ?_
            refine lv_aload_n hx hb dX7_shareOf_141 rfl (lv_at hl 4 rfl) ?_
            refine va_get (D := D) (ci := 8) (v := .ref a_msp) (C := RX7) (T := TX7) (N := 33) hx hb hts in_RX7 hown hE.1 (gv1 hP f0_mod) 0 rfl rfl 16 (by decide) (hts (.fieldLink RX7 44 "BasketryOfficeModel" "spent" "[I") (by decide +kernel)) (fun _ h9 => h9) rfl dX7_shareOf_142 ?_
            refine lv_bipush (v := nI 12) hx hb dX7_shareOf_145 (by decide) ?_
            refine lv_iload_n hx hb dX7_shareOf_147 rfl (lv_at hl 7 rfl) ?_
            refine g_imul hx hb dX7_shareOf_148 (pk_mul _ _) ?_
            refine lv_iconst (v := nI 4) hx hb dX7_shareOf_149 (by decide) ?_
            refine lv_iload hx hb dX7_shareOf_150 (lv_at hl 9 rfl) ?_
            refine g_imul hx hb dX7_shareOf_152 (pk_mul _ _) ?_
            refine g_iadd hx hb dX7_shareOf_153 (nI_add _ _) ?_
            refine lv_iload_n hx hb dX7_shareOf_154 rfl (lv_at hl 6 rfl) ?_
            refine g_iadd hx hb dX7_shareOf_155 (nI_add _ _) ?_
            refine g_nald hx hb hE hP _ f0_msp (by omega) (by decide) dX7_shareOf_156 ?_
            have bd_156_3 := b_msp (((12 * t) + (4 * j)) + g)
            refine g_iv (v' := nI (msp (12 * t + (j * 4 + g)))) (by rw [show 12 * t + 4 * j + g = 12 * t + (j * 4 + g) by omega]) ?_
            have bd9 := b_msp (12 * t + (j * 4 + g))
            refine lv_i2d hx hb dX7_shareOf_157 ?_
            refine lv_lload hx hb dX7_shareOf_158 (lv_at hl 10 rfl) ?_
            refine lv_l2d hx hb dX7_shareOf_160 ?_
            refine lv_ddiv hx hb dX7_shareOf_161 (fp_shareI _ (by omega) (by have := uS_le (f := (fun k => msp (12 * t + k))) (B := 1000000000) (fun k => b_msp (12 * t + k)) (j * 4) 4; omega)) ?_
            refine g_dv (v' := sShH (fun k => msp (12 * t + k)) j g) (by rw [sShH, if_pos c_132]) ?_
            refine lv_dadd hx hb dX7_shareOf_162 (hnn.1 j hj_j) ?_
            refine lv_dstore (lv' := [(9, .double (FP.dadd (mhS (fun k => msp (12 * t + k)) g (j)) (sShH (fun k => msp (12 * t + k)) j g))), (8, .int (nI (mhN (fun k => msp (12 * t + k)) (j) + 1))), (6, .long (lN ((mPt (fun k => msp (12 * t + k)) kd g (j)) + (0)))), (4, .long (lN ((mAl (fun k => msp (12 * t + k)) kd (j)) + (0)))), (14, .int (nI (0))), (0, .ref a_mod), (1, .int (nI (kd))), (2, .int (nI (g))), (3, .int (nI (t))), (11, .int (nI (j))), (12, .long (lN (uS (fun k => msp (12 * t + k)) (j * 4) (4))))]) hx hb dX7_shareOf_163 hl (by decide) rfl (fun ls hl => ?_)
            refine lv_iinc (v := nI (j + 1)) (lv' := [(11, .int (nI (j + 1))), (9, .double (FP.dadd (mhS (fun k => msp (12 * t + k)) g (j)) (sShH (fun k => msp (12 * t + k)) j g))), (8, .int (nI (mhN (fun k => msp (12 * t + k)) (j) + 1))), (6, .long (lN ((mPt (fun k => msp (12 * t + k)) kd g (j)) + (0)))), (4, .long (lN ((mAl (fun k => msp (12 * t + k)) kd (j)) + (0)))), (14, .int (nI (0))), (0, .ref a_mod), (1, .int (nI (kd))), (2, .int (nI (g))), (3, .int (nI (t))), (12, .long (lN (uS (fun k => msp (12 * t + k)) (j * 4) (4))))]) hx hb dX7_shareOf_165 hl (k := 9) rfl (nI_add _ 1) (by decide) rfl (fun ls hl => ?_)
            refine lv_goto (tgt := 15) hx hb dX7_shareOf_168 (by decide) ?_
            have hP : gvP D vwCl ws _ := g_trP (rfl) hP
            have hD : gvD A ws := g_trD (rfl) hD
            exact ih_j H locs ls hP hD hS (lv_sub hl [6, 7, 8, 9, 4, 3, 2, 1, 0] (by rw [mAl, mPt, if_neg (mCt_3 (by omega) c_72), if_neg (mCt_3 (by omega) c_72), mhS, mhN, if_pos c_132, if_pos c_132]; rfl))
        · refine lv_iconst (v := nI 1) hx hb dX7_shareOf_75 (by decide) ?_
          refine lv_goto (tgt := 80) hx hb dX7_shareOf_76 (by decide) ?_
          refine lv_istore (lv' := [(14, .int (nI (1))), (0, .ref a_mod), (1, .int (nI (kd))), (2, .int (nI (g))), (3, .int (nI (t))), (4, .long (lN (mAl (fun k => msp (12 * t + k)) kd (j)))), (6, .long (lN (mPt (fun k => msp (12 * t + k)) kd g (j)))), (8, .int (nI (mhN (fun k => msp (12 * t + k)) (j)))), (9, .double (mhS (fun k => msp (12 * t + k)) g (j))), (11, .int (nI (j))), (12, .long (lN (uS (fun k => msp (12 * t + k)) (j * 4) (4))))]) hx hb dX7_shareOf_80 hl (by decide) rfl (fun ls hl => ?_)
          refine lv_lload hx hb dX7_shareOf_82 (lv_at hl 5 rfl) ?_
          refine lv_iload hx hb dX7_shareOf_84 (lv_at hl 0 rfl) ?_
          refine g_if_eq (tgt := 94) hx hb (by omega) dX7_shareOf_86 (by decide) (fun c_86 => absurd c_86 (by omega)) (fun c_86 => ?_)
          refine lv_lload hx hb dX7_shareOf_89 (lv_at hl 10 rfl) ?_
          refine lv_goto (tgt := 95) hx hb dX7_shareOf_91 (by decide) ?_
          refine g_ladd hx hb dX7_shareOf_95 (lN_add _ _) ?_
          refine lv_lstore (lv' := [(4, .long (lN ((mAl (fun k => msp (12 * t + k)) kd (j)) + (uS (fun k => msp (12 * t + k)) (j * 4) (4))))), (14, .int (nI (1))), (0, .ref a_mod), (1, .int (nI (kd))), (2, .int (nI (g))), (3, .int (nI (t))), (6, .long (lN (mPt (fun k => msp (12 * t + k)) kd g (j)))), (8, .int (nI (mhN (fun k => msp (12 * t + k)) (j)))), (9, .double (mhS (fun k => msp (12 * t + k)) g (j))), (11, .int (nI (j))), (12, .long (lN (uS (fun k => msp (12 * t + k)) (j * 4) (4))))]) hx hb dX7_shareOf_96 hl (by decide) rfl (fun ls hl => ?_)
          refine lv_lload hx hb dX7_shareOf_98 (lv_at hl 6 rfl) ?_
          refine lv_iload hx hb dX7_shareOf_100 (lv_at hl 1 rfl) ?_
          refine g_if_eq (tgt := 125) hx hb (by omega) dX7_shareOf_102 (by decide) (fun c_102 => absurd c_102 (by omega)) (fun c_102 => ?_)
          refine lv_aload_n hx hb dX7_shareOf_105 rfl (lv_at hl 2 rfl) ?_
          refine va_get (D := D) (ci := 8) (v := .ref a_msp) (C := RX7) (T := TX7) (N := 33) hx hb hts in_RX7 hown hE.1 (gv1 hP f0_mod) 0 rfl rfl 16 (by decide) (hts (.fieldLink RX7 44 "BasketryOfficeModel" "spent" "[I") (by decide +kernel)) (fun _ h9 => h9) rfl dX7_shareOf_106 ?_
          refine lv_bipush (v := nI 12) hx hb dX7_shareOf_109 (by decide) ?_
          refine lv_iload_n hx hb dX7_shareOf_111 rfl (lv_at hl 5 rfl) ?_
          refine g_imul hx hb dX7_shareOf_112 (pk_mul _ _) ?_
          refine lv_iconst (v := nI 4) hx hb dX7_shareOf_113 (by decide) ?_
          refine lv_iload hx hb dX7_shareOf_114 (lv_at hl 9 rfl) ?_
          refine g_imul hx hb dX7_shareOf_116 (pk_mul _ _) ?_
          refine g_iadd hx hb dX7_shareOf_117 (nI_add _ _) ?_
          refine lv_iload_n hx hb dX7_shareOf_118 rfl (lv_at hl 4 rfl) ?_
          refine g_iadd hx hb dX7_shareOf_119 (nI_add _ _) ?_
          refine g_nald hx hb hE hP _ f0_msp (by omega) (by decide) dX7_shareOf_120 ?_
          have bd_120_4 := b_msp (((12 * t) + (4 * j)) + g)
          refine g_iv (v' := nI (msp (12 * t + (j * 4 + g)))) (by rw [show 12 * t + 4 * j + g = 12 * t + (j * 4 + g) by omega]) ?_
          have bd9 := b_msp (12 * t + (j * 4 + g))
          refine lv_i2l (v := lN (msp (12 * t + (j * 4 + g)))) hx hb dX7_shareOf_121 (nI_l (by omega)) ?_
          refine lv_goto (tgt := 126) hx hb dX7_shareOf_122 (by decide) ?_
          refine g_ladd hx hb dX7_shareOf_126 (lN_add _ _) ?_
          refine lv_lstore (lv' := [(6, .long (lN ((mPt (fun k => msp (12 * t + k)) kd g (j)) + (msp (12 * t + (j * 4 + g)))))), (4, .long (lN ((mAl (fun k => msp (12 * t + k)) kd (j)) + (uS (fun k => msp (12 * t + k)) (j * 4) (4))))), (14, .int (nI (1))), (0, .ref a_mod), (1, .int (nI (kd))), (2, .int (nI (g))), (3, .int (nI (t))), (8, .int (nI (mhN (fun k => msp (12 * t + k)) (j)))), (9, .double (mhS (fun k => msp (12 * t + k)) g (j))), (11, .int (nI (j))), (12, .long (lN (uS (fun k => msp (12 * t + k)) (j * 4) (4))))]) hx hb dX7_shareOf_127 hl (by decide) rfl (fun ls hl => ?_)
          refine lv_lload hx hb dX7_shareOf_129 (lv_at hl 10 rfl) ?_
          refine lv_lconst (v := lN 0) hx hb dX7_shareOf_131 (by decide) ?_
          refine g_lcmp_le (tgt := 165) hx hb (by have := uS_le (f := (fun k => msp (12 * t + k))) (B := 1000000000) (fun k => b_msp (12 * t + k)) (j * 4) 4; omega) (by decide) dX7_shareOf_132 dX7_shareOf_133 (by decide) (fun c_132 => ?_) (fun c_132 => ?_)
          · refine lv_iinc (v := nI (j + 1)) (lv' := [(11, .int (nI (j + 1))), (6, .long (lN ((mPt (fun k => msp (12 * t + k)) kd g (j)) + (msp (12 * t + (j * 4 + g)))))), (4, .long (lN ((mAl (fun k => msp (12 * t + k)) kd (j)) + (uS (fun k => msp (12 * t + k)) (j * 4) (4))))), (14, .int (nI (1))), (0, .ref a_mod), (1, .int (nI (kd))), (2, .int (nI (g))), (3, .int (nI (t))), (8, .int (nI (mhN (fun k => msp (12 * t + k)) (j)))), (9, .double (mhS (fun k => msp (12 * t + k)) g (j))), (12, .long (lN (uS (fun k => msp (12 * t + k)) (j * 4) (4))))]) hx hb dX7_shareOf_165 hl (k := 9) rfl (nI_add _ 1) (by decide) rfl (fun ls hl => ?_)
            refine lv_goto (tgt := 15) hx hb dX7_shareOf_168 (by decide) ?_
            have hP : gvP D vwCl ws _ := g_trP (rfl) hP
            have hD : gvD A ws := g_trD (rfl) hD
            exact ih_j H locs ls hP hD hS (lv_sub hl [4, 5, 6, 7, 2, 1, 8, 9, 0] (by rw [mAl, mPt, if_pos (mCt_2 c_72), if_pos (mCt_2 c_72), mhS, mhN, if_neg (by omega), if_neg (by omega)]; rfl))
          · refine lv_iinc (v := nI (mhN (fun k => msp (12 * t + k)) (j) + 1)) (lv' := [(8, .int (nI (mhN (fun k => msp (12 * t + k)) (j) + 1))), (6, .long (lN ((mPt (fun k => msp (12 * t + k)) kd g (j)) + (msp (12 * t + (j * 4 + g)))))), (4, .long (lN ((mAl (fun k => msp (12 * t + k)) kd (j)) + (uS (fun k => msp (12 * t + k)) (j * 4) (4))))), (14, .int (nI (1))), (0, .ref a_mod), (1, .int (nI (kd))), (2, .int (nI (g))), (3, .int (nI (t))), (9, .double (mhS (fun k => msp (12 * t + k)) g (j))), (11, .int (nI (j))), (12, .long (lN (uS (fun k => msp (12 * t + k)) (j * 4) (4))))]) hx hb dX7_shareOf_136 hl (k := 7) rfl (nI_add _ 1) (by decide) rfl (fun ls hl => ?_)
            refine lv_dload hx hb dX7_shareOf_139 (lv_at hl 8 rfl) ?_
            refine lv_aload_n hx hb dX7_shareOf_141 rfl (lv_at hl 4 rfl) ?_
            refine va_get (D := D) (ci := 8) (v := .ref a_msp) (C := RX7) (T := TX7) (N := 33) hx hb hts in_RX7 hown hE.1 (gv1 hP f0_mod) 0 rfl rfl 16 (by decide) (hts (.fieldLink RX7 44 "BasketryOfficeModel" "spent" "[I") (by decide +kernel)) (fun _ h9 => h9) rfl dX7_shareOf_142 ?_
            refine lv_bipush (v := nI 12) hx hb dX7_shareOf_145 (by decide) ?_
            refine lv_iload_n hx hb dX7_shareOf_147 rfl (lv_at hl 7 rfl) ?_
            refine g_imul hx hb dX7_shareOf_148 (pk_mul _ _) ?_
            refine lv_iconst (v := nI 4) hx hb dX7_shareOf_149 (by decide) ?_
            refine lv_iload hx hb dX7_shareOf_150 (lv_at hl 9 rfl) ?_
            refine g_imul hx hb dX7_shareOf_152 (pk_mul _ _) ?_
            refine g_iadd hx hb dX7_shareOf_153 (nI_add _ _) ?_
            refine lv_iload_n hx hb dX7_shareOf_154 rfl (lv_at hl 6 rfl) ?_
            refine g_iadd hx hb dX7_shareOf_155 (nI_add _ _) ?_
            refine g_nald hx hb hE hP _ f0_msp (by omega) (by decide) dX7_shareOf_156 ?_
            have bd_156_5 := b_msp (((12 * t) + (4 * j)) + g)
            refine g_iv (v' := nI (msp (12 * t + (j * 4 + g)))) (by rw [show 12 * t + 4 * j + g = 12 * t + (j * 4 + g) by omega]) ?_
            have bd9 := b_msp (12 * t + (j * 4 + g))
            refine lv_i2d hx hb dX7_shareOf_157 ?_
            refine lv_lload hx hb dX7_shareOf_158 (lv_at hl 10 rfl) ?_
            refine lv_l2d hx hb dX7_shareOf_160 ?_
            refine lv_ddiv hx hb dX7_shareOf_161 (fp_shareI _ (by omega) (by have := uS_le (f := (fun k => msp (12 * t + k))) (B := 1000000000) (fun k => b_msp (12 * t + k)) (j * 4) 4; omega)) ?_
            refine g_dv (v' := sShH (fun k => msp (12 * t + k)) j g) (by rw [sShH, if_pos c_132]) ?_
            refine lv_dadd hx hb dX7_shareOf_162 (hnn.1 j hj_j) ?_
            refine lv_dstore (lv' := [(9, .double (FP.dadd (mhS (fun k => msp (12 * t + k)) g (j)) (sShH (fun k => msp (12 * t + k)) j g))), (8, .int (nI (mhN (fun k => msp (12 * t + k)) (j) + 1))), (6, .long (lN ((mPt (fun k => msp (12 * t + k)) kd g (j)) + (msp (12 * t + (j * 4 + g)))))), (4, .long (lN ((mAl (fun k => msp (12 * t + k)) kd (j)) + (uS (fun k => msp (12 * t + k)) (j * 4) (4))))), (14, .int (nI (1))), (0, .ref a_mod), (1, .int (nI (kd))), (2, .int (nI (g))), (3, .int (nI (t))), (11, .int (nI (j))), (12, .long (lN (uS (fun k => msp (12 * t + k)) (j * 4) (4))))]) hx hb dX7_shareOf_163 hl (by decide) rfl (fun ls hl => ?_)
            refine lv_iinc (v := nI (j + 1)) (lv' := [(11, .int (nI (j + 1))), (9, .double (FP.dadd (mhS (fun k => msp (12 * t + k)) g (j)) (sShH (fun k => msp (12 * t + k)) j g))), (8, .int (nI (mhN (fun k => msp (12 * t + k)) (j) + 1))), (6, .long (lN ((mPt (fun k => msp (12 * t + k)) kd g (j)) + (msp (12 * t + (j * 4 + g)))))), (4, .long (lN ((mAl (fun k => msp (12 * t + k)) kd (j)) + (uS (fun k => msp (12 * t + k)) (j * 4) (4))))), (14, .int (nI (1))), (0, .ref a_mod), (1, .int (nI (kd))), (2, .int (nI (g))), (3, .int (nI (t))), (12, .long (lN (uS (fun k => msp (12 * t + k)) (j * 4) (4))))]) hx hb dX7_shareOf_165 hl (k := 9) rfl (nI_add _ 1) (by decide) rfl (fun ls hl => ?_)
            refine lv_goto (tgt := 15) hx hb dX7_shareOf_168 (by decide) ?_
            have hP : gvP D vwCl ws _ := g_trP (rfl) hP
            have hD : gvD A ws := g_trD (rfl) hD
            exact ih_j H locs ls hP hD hS (lv_sub hl [6, 7, 8, 9, 4, 3, 2, 1, 0] (by rw [mAl, mPt, if_pos (mCt_2 c_72), if_pos (mCt_2 c_72), mhS, mhN, if_pos c_132, if_pos c_132]; rfl))
    · intro k hj_k ih_k H locs ls hP hD hS hl
      have hP : gvP D vwCl ws H := hP
      have hD : gvD A ws := hD
      have hl : lv_has ls 15 [(0, .ref a_mod), (1, .int (nI (kd))), (2, .int (nI (g))), (3, .int (nI (t))), (4, .long (lN (mAl (fun k => msp (12 * t + k)) kd (j)))), (6, .long (lN (mPt (fun k => msp (12 * t + k)) kd g (j)))), (8, .int (nI (mhN (fun k => msp (12 * t + k)) (j)))), (9, .double (mhS (fun k => msp (12 * t + k)) g (j))), (11, .int (nI (j))), (12, .long (lN (uS (fun k => msp (12 * t + k)) (j * 4) (k)))), (14, .int (nI (k)))] := hl
      refine lv_iload hx hb dX7_shareOf_27 (lv_at hl 10 rfl) ?_
      refine lv_iconst (v := nI 4) hx hb dX7_shareOf_29 (by decide) ?_
      refine g_icmp_ge (tgt := 62) hx hb (by omega) (by omega) dX7_shareOf_30 (by decide) (fun c_30 => absurd c_30 (by omega)) (fun c_30 => ?_)
      refine lv_lload hx hb dX7_shareOf_33 (lv_at hl 9 rfl) ?_
      refine lv_aload_n hx hb dX7_shareOf_35 rfl (lv_at hl 0 rfl) ?_
      refine va_get (D := D) (ci := 8) (v := .ref a_msp) (C := RX7) (T := TX7) (N := 33) hx hb hts in_RX7 hown hE.1 (gv1 hP f0_mod) 0 rfl rfl 16 (by decide) (hts (.fieldLink RX7 44 "BasketryOfficeModel" "spent" "[I") (by decide +kernel)) (fun _ h9 => h9) rfl dX7_shareOf_36 ?_
      refine lv_bipush (v := nI 12) hx hb dX7_shareOf_39 (by decide) ?_
      refine lv_iload_n hx hb dX7_shareOf_41 rfl (lv_at hl 3 rfl) ?_
      refine g_imul hx hb dX7_shareOf_42 (pk_mul _ _) ?_
      refine lv_iconst (v := nI 4) hx hb dX7_shareOf_43 (by decide) ?_
      refine lv_iload hx hb dX7_shareOf_44 (lv_at hl 8 rfl) ?_
      refine g_imul hx hb dX7_shareOf_46 (pk_mul _ _) ?_
      refine g_iadd hx hb dX7_shareOf_47 (nI_add _ _) ?_
      refine lv_iload hx hb dX7_shareOf_48 (lv_at hl 10 rfl) ?_
      refine g_iadd hx hb dX7_shareOf_50 (nI_add _ _) ?_
      refine g_nald hx hb hE hP _ f0_msp (by omega) (by decide) dX7_shareOf_51 ?_
      have bd_51_6 := b_msp (((12 * t) + (4 * j)) + k)
      refine g_iv (v' := nI (msp (12 * t + (j * 4 + k)))) (by rw [show 12 * t + 4 * j + k = 12 * t + (j * 4 + k) by omega]) ?_
      have bd9 := b_msp (12 * t + (j * 4 + k))
      refine lv_i2l (v := lN (msp (12 * t + (j * 4 + k)))) hx hb dX7_shareOf_52 (nI_l (by omega)) ?_
      refine g_ladd hx hb dX7_shareOf_53 (lN_add _ _) ?_
      refine lv_lstore (lv' := [(12, .long (lN ((uS (fun k => msp (12 * t + k)) (j * 4) (k)) + (msp (12 * t + (j * 4 + k)))))), (0, .ref a_mod), (1, .int (nI (kd))), (2, .int (nI (g))), (3, .int (nI (t))), (4, .long (lN (mAl (fun k => msp (12 * t + k)) kd (j)))), (6, .long (lN (mPt (fun k => msp (12 * t + k)) kd g (j)))), (8, .int (nI (mhN (fun k => msp (12 * t + k)) (j)))), (9, .double (mhS (fun k => msp (12 * t + k)) g (j))), (11, .int (nI (j))), (14, .int (nI (k)))]) hx hb dX7_shareOf_54 hl (by decide) rfl (fun ls hl => ?_)
      refine lv_iinc (v := nI (k + 1)) (lv' := [(14, .int (nI (k + 1))), (12, .long (lN ((uS (fun k => msp (12 * t + k)) (j * 4) (k)) + (msp (12 * t + (j * 4 + k)))))), (0, .ref a_mod), (1, .int (nI (kd))), (2, .int (nI (g))), (3, .int (nI (t))), (4, .long (lN (mAl (fun k => msp (12 * t + k)) kd (j)))), (6, .long (lN (mPt (fun k => msp (12 * t + k)) kd g (j)))), (8, .int (nI (mhN (fun k => msp (12 * t + k)) (j)))), (9, .double (mhS (fun k => msp (12 * t + k)) g (j))), (11, .int (nI (j)))]) hx hb dX7_shareOf_56 hl (k := 10) rfl (nI_add _ 1) (by decide) rfl (fun ls hl => ?_)
      refine lv_goto (tgt := 27) hx hb dX7_shareOf_59 (by decide) ?_
      have hP : gvP D vwCl ws _ := g_trP (rfl) hP
      have hD : gvD A ws := g_trD (rfl) hD
      exact ih_k H locs ls hP hD hS (lv_sub hl [2, 3, 4, 5, 6, 7, 8, 9, 10, 1, 0] rfl)
