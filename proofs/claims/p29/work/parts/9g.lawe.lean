/-! what would have been paid -/
set_option maxHeartbeats 4000000 in
set_option maxRecDepth 100000 in
theorem c_L_due (l : Launch) {D : va_G} {y : Nat → Nat} {ws : va_W} {p_zw p_zi p_zc p_zg p_zf p_zn p_zl p_zr p_ze p_zq a_zw a_zi a_zc a_zg a_zf a_zn a_zl a_zr a_ze a_zq : Nat} {zw : Nat → Nat} {zi : Nat → Nat} {zc : Nat → Nat} {zg : Nat → Nat} {zf : Nat → Nat} {zn : Nat → Nat} {zl : Nat → Nat} {zr : Nat → Nat} {ze : Nat → Nat} {zq : Nat → Nat} {k fw fm lag trig : Nat} {fl : Bool} {num : Nat → Nat} {M : Nat → Bool} {o b pr rel grp shr idx : Nat → UInt64} {MM G : Nat → Nat} {n T : Nat} (f0_zw : ws[p_zw]? = some (a_zw, eL y 30 zw)) (f0_zi : ws[p_zi]? = some (a_zi, eN y 12 zi)) (f0_zc : ws[p_zc]? = some (a_zc, eN y 60 zc)) (f0_zg : ws[p_zg]? = some (a_zg, eN y 60 zg)) (f0_zf : ws[p_zf]? = some (a_zf, eN y 60 zf)) (f0_zn : ws[p_zn]? = some (a_zn, eN y 60 zn)) (f0_zl : ws[p_zl]? = some (a_zl, eN y 60 zl)) (f0_zr : ws[p_zr]? = some (a_zr, eN y 60 zr)) (f0_ze : ws[p_ze]? = some (a_ze, eN y 60 ze)) (f0_zq : ws[p_zq]? = some (a_zq, eN y 5 zq)) (b_zw : ∀ k, zw k ≤ 1000000000000) (b_zi : ∀ k, zi k ≤ 4095) (b_zc : ∀ k, zc k ≤ 100000) (b_zg : ∀ k, zg k ≤ 10000) (b_zf : ∀ k, zf k ≤ 100000) (b_zn : ∀ k, zn k ≤ 1) (b_zl : ∀ k, zl k ≤ 100000) (b_zr : ∀ k, zr k ≤ 10000) (b_ze : ∀ k, ze k ≤ 1000000000) (b_zq : ∀ k, zq k ≤ 1000) (hk : k < 3) (hw9 : zw (10 * k + 7) = fw ∧ zw (10 * k + 8) = fm ∧ zw (10 * k + 1) = lag ∧ zw (10 * k + 2) = trig ∧ decide (zw (10 * k + 3) = 1) = fl) (hq1 : zq 1 = T) (hfm : fm < T) (hfw : fw ≤ 1000000000) (hlag : lag ≤ 3) (htr : trig ≤ 500) (hnum : ∀ t9, num t9 = sNumN (idx (t9 * 5 + 0))) (hnb9 : ∀ t9, t9 < T → 1 ≤ num t9 ∧ num t9 ≤ 2147483647) (hL : LSer true zi zc zg zf zn zl zr ze zq n T MM G M o b pr rel grp shr idx) : gMl l yL_due wsL_due ({ frames := 5, cells := 0, slots := 0, locals := 201 }) D y [.int (nI (k)), .ref a_zw, .ref a_zi, .ref a_zc, .ref a_zg, .ref a_zf, .ref a_zn, .ref a_zl, .ref a_zr, .ref a_ze, .ref a_zq] ws (fun r (_ : Unit) => r = lN (paR fw lag trig fl fm num (T - (fm + 1))).2.2.2) (fun (_ : Unit) => ws) := by
  refine g_met_l (cc := cL_due) (maxL := 24) (by decide) rfl (Nat.le_of_ble_eq_true rfl) ?_
  intro p e s m below meth c A hx hb hml hr hts hown hnm hlocks hE hP hD hS hA ls hl
  have hown : s.vm.findClass RL = some m.cls := hown
  have hl : lv_has ls 24 [(0, .int (nI (k))), (1, .ref a_zw), (2, .ref a_zi), (3, .ref a_zc), (4, .ref a_zg), (5, .ref a_zf), (6, .ref a_zn), (7, .ref a_zl), (8, .ref a_zr), (9, .ref a_ze), (10, .ref a_zq)] := hl
  have hT9 := hL.1.2.2
  have hnf := hnb9 fm hfm
  refine lv_aload_n hx hb dL_due_0 rfl (lv_at hl 1 rfl) ?_
  refine lv_bipush (v := nI 10) hx hb dL_due_1 (by decide) ?_
  refine lv_iload_n hx hb dL_due_3 rfl (lv_at hl 0 rfl) ?_
  refine g_imul hx hb dL_due_4 (pk_mul _ _) ?_
  refine lv_bipush (v := nI 7) hx hb dL_due_5 (by decide) ?_
  refine g_iadd hx hb dL_due_7 (nI_add _ _) ?_
  refine g_Lald hx hb hE hP _ f0_zw (by omega) (by decide) dL_due_8 ?_
  have bd_8_1 := b_zw ((10 * k) + 7)
  refine g_lv (v' := (lN (fw))) (congrArg lN hw9.1) ?_
  refine lv_lstore (lv' := [(11, .long (lN (fw))), (0, .int (nI (k))), (1, .ref a_zw), (2, .ref a_zi), (3, .ref a_zc), (4, .ref a_zg), (5, .ref a_zf), (6, .ref a_zn), (7, .ref a_zl), (8, .ref a_zr), (9, .ref a_ze), (10, .ref a_zq)]) hx hb dL_due_9 hl (by decide) rfl (fun ls hl => ?_)
  refine lv_aload_n hx hb dL_due_11 rfl (lv_at hl 2 rfl) ?_
  refine lv_bipush (v := nI 10) hx hb dL_due_12 (by decide) ?_
  refine lv_iload_n hx hb dL_due_14 rfl (lv_at hl 1 rfl) ?_
  refine g_imul hx hb dL_due_15 (pk_mul _ _) ?_
  refine lv_bipush (v := nI 8) hx hb dL_due_16 (by decide) ?_
  refine g_iadd hx hb dL_due_18 (nI_add _ _) ?_
  refine g_Lald hx hb hE hP _ f0_zw (by omega) (by decide) dL_due_19 ?_
  have bd_19_2 := b_zw ((10 * k) + 8)
  refine g_lv (v' := (lN (fm))) (congrArg lN hw9.2.1) ?_
  refine lv_l2i (v := nI (fm)) hx hb dL_due_20 (lN_i _) ?_
  refine lv_istore (lv' := [(13, .int (nI (fm))), (11, .long (lN (fw))), (0, .int (nI (k))), (1, .ref a_zw), (2, .ref a_zi), (3, .ref a_zc), (4, .ref a_zg), (5, .ref a_zf), (6, .ref a_zn), (7, .ref a_zl), (8, .ref a_zr), (9, .ref a_ze), (10, .ref a_zq)]) hx hb dL_due_21 hl (by decide) rfl (fun ls hl => ?_)
  refine lv_iload hx hb dL_due_23 (lv_at hl 0 rfl) ?_
  refine lv_iconst (v := nI 1) hx hb dL_due_25 (by decide) ?_
  refine lv_aload_n hx hb dL_due_26 rfl (lv_at hl 4 rfl) ?_
  refine lv_aload_n hx hb dL_due_27 rfl (lv_at hl 5 rfl) ?_
  refine lv_aload hx hb dL_due_28 (lv_at hl 6 rfl) ?_
  refine lv_aload hx hb dL_due_30 (lv_at hl 7 rfl) ?_
  refine lv_aload hx hb dL_due_32 (lv_at hl 8 rfl) ?_
  refine lv_aload hx hb dL_due_34 (lv_at hl 9 rfl) ?_
  refine lv_aload hx hb dL_due_36 (lv_at hl 10 rfl) ?_
  refine lv_aload hx hb dL_due_38 (lv_at hl 11 rfl) ?_
  refine lv_aload hx hb dL_due_40 (lv_at hl 12 rfl) ?_
  refine gc_S_i (As := [.int (nI (fm)), .int (gb (true)), .ref a_zi, .ref a_zc, .ref a_zg, .ref a_zf, .ref a_zn, .ref a_zl, .ref a_zr, .ref a_ze, .ref a_zq]) (rest := []) (c_L_number l f0_zi f0_zc f0_zg f0_zf f0_zn f0_zl f0_zr f0_ze f0_zq b_zi b_zc b_zg b_zf b_zn b_zl b_zr b_ze b_zq (n := n) (T := T) (MM := MM) (G := G) (M := M) (o := o) (b := b) (pr := pr) (rel := rel) (grp := grp) (shr := shr) (idx := idx) hfm hL) ⟨hx, hb, hml, hown, hts⟩ (va_cwS 11 hts gL_due_L_number rfl rfl rfl (by decide +kernel) ⟨Nat.le_of_ble_eq_true rfl, Nat.le_of_ble_eq_true rfl⟩) hE hP hD hS hA rfl rfl hl.1 (Nat.le_of_ble_eq_true rfl) dL_due_42 ⟨Nat.le_of_ble_eq_true rfl, Nat.le_of_ble_eq_true rfl⟩ (fun r_42 u_42 H locs hP hD hS q_42 => ?_)
  have q9 := q_42.trans (congrArg nI (hnum fm).symm)
  subst q9
  refine lv_i2l (v := lN (num fm)) hx hb dL_due_45 (nI_l (by omega)) ?_
  refine lv_lstore (lv' := [(14, .long (lN (num fm))), (13, .int (nI (fm))), (11, .long (lN (fw))), (0, .int (nI (k))), (1, .ref a_zw), (2, .ref a_zi), (3, .ref a_zc), (4, .ref a_zg), (5, .ref a_zf), (6, .ref a_zn), (7, .ref a_zl), (8, .ref a_zr), (9, .ref a_ze), (10, .ref a_zq)]) hx hb dL_due_46 hl (by decide) rfl (fun ls hl => ?_)
  refine lv_lconst (v := lN 0) hx hb dL_due_48 (by decide) ?_
  refine lv_lstore (lv' := [(16, .long (lN (0))), (14, .long (lN (num fm))), (13, .int (nI (fm))), (11, .long (lN (fw))), (0, .int (nI (k))), (1, .ref a_zw), (2, .ref a_zi), (3, .ref a_zc), (4, .ref a_zg), (5, .ref a_zf), (6, .ref a_zn), (7, .ref a_zl), (8, .ref a_zr), (9, .ref a_ze), (10, .ref a_zq)]) hx hb dL_due_49 hl (by decide) rfl (fun ls hl => ?_)
  refine lv_aload_n hx hb dL_due_51 rfl (lv_at hl 5 rfl) ?_
  refine lv_bipush (v := nI 10) hx hb dL_due_52 (by decide) ?_
  refine lv_iload_n hx hb dL_due_54 rfl (lv_at hl 4 rfl) ?_
  refine g_imul hx hb dL_due_55 (pk_mul _ _) ?_
  refine lv_bipush (v := nI 8) hx hb dL_due_56 (by decide) ?_
  refine g_iadd hx hb dL_due_58 (nI_add _ _) ?_
  refine g_Lald hx hb hE hP _ f0_zw (by omega) (by decide) dL_due_59 ?_
  have bd_59_3 := b_zw ((10 * k) + 8)
  refine g_lv (v' := (lN (fm))) (congrArg lN hw9.2.1) ?_
  refine lv_l2i (v := nI (fm)) hx hb dL_due_60 (lN_i _) ?_
  refine lv_iconst (v := nI 1) hx hb dL_due_61 (by decide) ?_
  refine g_iadd hx hb dL_due_62 (nI_add _ _) ?_
  refine lv_istore (lv' := [(18, .int (nI (fm + 1))), (16, .long (lN (0))), (14, .long (lN (num fm))), (13, .int (nI (fm))), (11, .long (lN (fw))), (0, .int (nI (k))), (1, .ref a_zw), (2, .ref a_zi), (3, .ref a_zc), (4, .ref a_zg), (5, .ref a_zf), (6, .ref a_zn), (7, .ref a_zl), (8, .ref a_zr), (9, .ref a_ze), (10, .ref a_zq)]) hx hb dL_due_63 hl (by decide) rfl (fun ls hl => ?_)
  have hP : gvP D vwCl ws _ := g_trP (rfl) hP
  have hD : gvD A ws := g_trD (rfl) hD
  refine g_for (fun d => ws) (fun d => [(0, .int (nI (k))), (1, .ref a_zw), (2, .ref a_zi), (3, .ref a_zc), (4, .ref a_zg), (5, .ref a_zf), (6, .ref a_zn), (7, .ref a_zl), (8, .ref a_zr), (9, .ref a_ze), (10, .ref a_zq), (11, .long (lN ((paR fw lag trig fl fm num (d)).1))), (13, .int (nI ((paR fw lag trig fl fm num (d)).2.2.1))), (14, .long (lN ((paR fw lag trig fl fm num (d)).2.1))), (16, .long (lN ((paR fw lag trig fl fm num (d)).2.2.2))), (18, .int (nI (fm + 1 + d)))]) ((T - (fm + 1))) (0) (by omega) ?_ ?_ hP hD hS (lv_sub hl [5, 6, 7, 8, 9, 10, 11, 12, 13, 14, 15, 4, 3, 2, 1, 0] rfl)
  · intro H locs ls hP hD hS hl
    have hP : gvP D vwCl ws H := hP
    have hD : gvD A ws := hD
    have hl : lv_has ls 24 [(0, .int (nI (k))), (1, .ref a_zw), (2, .ref a_zi), (3, .ref a_zc), (4, .ref a_zg), (5, .ref a_zf), (6, .ref a_zn), (7, .ref a_zl), (8, .ref a_zr), (9, .ref a_ze), (10, .ref a_zq), (11, .long (lN ((paR fw lag trig fl fm num ((T - (fm + 1)))).1))), (13, .int (nI ((paR fw lag trig fl fm num ((T - (fm + 1)))).2.2.1))), (14, .long (lN ((paR fw lag trig fl fm num ((T - (fm + 1)))).2.1))), (16, .long (lN ((paR fw lag trig fl fm num ((T - (fm + 1)))).2.2.2))), (18, .int (nI (fm + 1 + (T - (fm + 1)))))] := hl
    refine lv_iload hx hb dL_due_65 (lv_at hl 15 rfl) ?_
    refine lv_aload hx hb dL_due_67 (lv_at hl 10 rfl) ?_
    refine lv_iconst (v := nI 1) hx hb dL_due_69 (by decide) ?_
    refine g_nald hx hb hE hP _ f0_zq (by omega) (by decide) dL_due_70 ?_
    have bd_70_4 := b_zq (1)
    refine g_iv (v' := (nI (T))) (congrArg nI hq1) ?_
    refine g_icmp_ge (tgt := 218) hx hb (by omega) (by omega) dL_due_71 (by decide) (fun c_71 => ?_) (fun c_71 => absurd c_71 (by omega))
    refine lv_lload hx hb dL_due_218 (lv_at hl 14 rfl) ?_
    refine g_lret hx hb hr hlocks () dL_due_220 hS hP hD ?_
    exact rfl
  · intro d hj_d ih_d H locs ls hP hD hS hl
    have hP : gvP D vwCl ws H := hP
    have hD : gvD A ws := hD
    have hl : lv_has ls 24 [(0, .int (nI (k))), (1, .ref a_zw), (2, .ref a_zi), (3, .ref a_zc), (4, .ref a_zg), (5, .ref a_zf), (6, .ref a_zn), (7, .ref a_zl), (8, .ref a_zr), (9, .ref a_ze), (10, .ref a_zq), (11, .long (lN ((paR fw lag trig fl fm num (d)).1))), (13, .int (nI ((paR fw lag trig fl fm num (d)).2.2.1))), (14, .long (lN ((paR fw lag trig fl fm num (d)).2.1))), (16, .long (lN ((paR fw lag trig fl fm num (d)).2.2.2))), (18, .int (nI (fm + 1 + d)))] := hl
    have hpb := paR_b (lag := lag) (trig := trig) (fl := fl) hfw hnb9 hfm d (by omega)
    refine lv_iload hx hb dL_due_65 (lv_at hl 15 rfl) ?_
    refine lv_aload hx hb dL_due_67 (lv_at hl 10 rfl) ?_
    refine lv_iconst (v := nI 1) hx hb dL_due_69 (by decide) ?_
    refine g_nald hx hb hE hP _ f0_zq (by omega) (by decide) dL_due_70 ?_
    have bd_70_5 := b_zq (1)
    refine g_iv (v' := (nI (T))) (congrArg nI hq1) ?_
    refine g_icmp_ge (tgt := 218) hx hb (by omega) (by omega) dL_due_71 (by decide) (fun c_71 => absurd c_71 (by omega)) (fun c_71 => ?_)
    refine lv_iload hx hb dL_due_74 (lv_at hl 15 rfl) ?_
    refine lv_aload_n hx hb dL_due_76 rfl (lv_at hl 1 rfl) ?_
    refine lv_bipush (v := nI 10) hx hb dL_due_77 (by decide) ?_
    refine lv_iload_n hx hb dL_due_79 rfl (lv_at hl 0 rfl) ?_
    refine g_imul hx hb dL_due_80 (pk_mul _ _) ?_
    refine lv_iconst (v := nI 1) hx hb dL_due_81 (by decide) ?_
    refine g_iadd hx hb dL_due_82 (nI_add _ _) ?_
    refine g_Lald hx hb hE hP _ f0_zw (by omega) (by decide) dL_due_83 ?_
    have bd_83_6 := b_zw ((10 * k) + 1)
    refine g_lv (v' := (lN (lag))) (congrArg lN hw9.2.2.1) ?_
    refine lv_l2i (v := nI (lag)) hx hb dL_due_84 (lN_i _) ?_
    rcases Nat.lt_or_ge (fm + 1 + d) lag with hs | hs
    · refine g_isub hx hb dL_due_85 rfl ?_
      refine lv_istore (lv' := [(19, .int (nI (fm + 1 + d) - nI lag)), (0, .int (nI (k))), (1, .ref a_zw), (2, .ref a_zi), (3, .ref a_zc), (4, .ref a_zg), (5, .ref a_zf), (6, .ref a_zn), (7, .ref a_zl), (8, .ref a_zr), (9, .ref a_ze), (10, .ref a_zq), (11, .long (lN ((paR fw lag trig fl fm num (d)).1))), (13, .int (nI ((paR fw lag trig fl fm num (d)).2.2.1))), (14, .long (lN ((paR fw lag trig fl fm num (d)).2.1))), (16, .long (lN ((paR fw lag trig fl fm num (d)).2.2.2))), (18, .int (nI (fm + 1 + d)))]) hx hb dL_due_86 hl (by decide) rfl (fun ls hl => ?_)
      refine lv_iload hx hb dL_due_88 (lv_at hl 0 rfl) ?_
      refine lv_iload hx hb dL_due_90 (lv_at hl 13 rfl) ?_
      refine lv_icmp_le (tgt := 205) hx hb dL_due_92 (by decide) (fun c_92 => ?_) (fun c_92 => absurd c_92 (fun z => z (g_negle hs (by omega) (by omega))))
      refine lv_lload hx hb dL_due_205 (lv_at hl 15 rfl) ?_
      refine lv_lload hx hb dL_due_207 (lv_at hl 12 rfl) ?_
      refine g_ladd hx hb dL_due_209 (lN_add _ _) ?_
      refine lv_lstore (lv' := [(16, .long (lN (((paR fw lag trig fl fm num (d)).2.2.2) + ((paR fw lag trig fl fm num (d)).1)))), (19, .int (nI (fm + 1 + d) - nI lag)), (0, .int (nI (k))), (1, .ref a_zw), (2, .ref a_zi), (3, .ref a_zc), (4, .ref a_zg), (5, .ref a_zf), (6, .ref a_zn), (7, .ref a_zl), (8, .ref a_zr), (9, .ref a_ze), (10, .ref a_zq), (11, .long (lN ((paR fw lag trig fl fm num (d)).1))), (13, .int (nI ((paR fw lag trig fl fm num (d)).2.2.1))), (14, .long (lN ((paR fw lag trig fl fm num (d)).2.1))), (18, .int (nI (fm + 1 + d)))]) hx hb dL_due_210 hl (by decide) rfl (fun ls hl => ?_)
      refine lv_iinc (v := nI (fm + 1 + d + 1)) (lv' := [(18, .int (nI (fm + 1 + d + 1))), (16, .long (lN (((paR fw lag trig fl fm num (d)).2.2.2) + ((paR fw lag trig fl fm num (d)).1)))), (19, .int (nI (fm + 1 + d) - nI lag)), (0, .int (nI (k))), (1, .ref a_zw), (2, .ref a_zi), (3, .ref a_zc), (4, .ref a_zg), (5, .ref a_zf), (6, .ref a_zn), (7, .ref a_zl), (8, .ref a_zr), (9, .ref a_ze), (10, .ref a_zq), (11, .long (lN ((paR fw lag trig fl fm num (d)).1))), (13, .int (nI ((paR fw lag trig fl fm num (d)).2.2.1))), (14, .long (lN ((paR fw lag trig fl fm num (d)).2.1)))]) hx hb dL_due_212 hl (k := 16) rfl (nI_add _ 1) (by decide) rfl (fun ls hl => ?_)
      refine lv_goto (tgt := 65) hx hb dL_due_215 (by decide) ?_
      have hP : gvP D vwCl ws _ := g_trP (rfl) hP
      have hD : gvD A ws := g_trD (rfl) hD
      exact ih_d H locs ls hP hD hS (lv_sub hl [3, 4, 5, 6, 7, 8, 9, 10, 11, 12, 13, 14, 15, 16, 1, 0] (by rw [show (paR fw lag trig fl fm num (d + 1)) = payS lag trig fl num (fm + 1 + d) (paR fw lag trig fl fm num (d)) from rfl, payC_f (Or.inl hs)]; rfl))
    · refine g_isub hx hb dL_due_85 (pk_sub hs) ?_
      refine lv_istore (lv' := [(19, .int (nI (fm + 1 + d - lag))), (0, .int (nI (k))), (1, .ref a_zw), (2, .ref a_zi), (3, .ref a_zc), (4, .ref a_zg), (5, .ref a_zf), (6, .ref a_zn), (7, .ref a_zl), (8, .ref a_zr), (9, .ref a_ze), (10, .ref a_zq), (11, .long (lN ((paR fw lag trig fl fm num (d)).1))), (13, .int (nI ((paR fw lag trig fl fm num (d)).2.2.1))), (14, .long (lN ((paR fw lag trig fl fm num (d)).2.1))), (16, .long (lN ((paR fw lag trig fl fm num (d)).2.2.2))), (18, .int (nI (fm + 1 + d)))]) hx hb dL_due_86 hl (by decide) rfl (fun ls hl => ?_)
      refine lv_iload hx hb dL_due_88 (lv_at hl 0 rfl) ?_
      refine lv_iload hx hb dL_due_90 (lv_at hl 13 rfl) ?_
      refine g_icmp_le (tgt := 205) hx hb (by omega) (by omega) dL_due_92 (by decide) (fun c_92 => ?_) (fun c_92 => ?_)
      · refine lv_lload hx hb dL_due_205 (lv_at hl 15 rfl) ?_
        refine lv_lload hx hb dL_due_207 (lv_at hl 12 rfl) ?_
        refine g_ladd hx hb dL_due_209 (lN_add _ _) ?_
        refine lv_lstore (lv' := [(16, .long (lN (((paR fw lag trig fl fm num (d)).2.2.2) + ((paR fw lag trig fl fm num (d)).1)))), (19, .int (nI (fm + 1 + d - lag))), (0, .int (nI (k))), (1, .ref a_zw), (2, .ref a_zi), (3, .ref a_zc), (4, .ref a_zg), (5, .ref a_zf), (6, .ref a_zn), (7, .ref a_zl), (8, .ref a_zr), (9, .ref a_ze), (10, .ref a_zq), (11, .long (lN ((paR fw lag trig fl fm num (d)).1))), (13, .int (nI ((paR fw lag trig fl fm num (d)).2.2.1))), (14, .long (lN ((paR fw lag trig fl fm num (d)).2.1))), (18, .int (nI (fm + 1 + d)))]) hx hb dL_due_210 hl (by decide) rfl (fun ls hl => ?_)
        refine lv_iinc (v := nI (fm + 1 + d + 1)) (lv' := [(18, .int (nI (fm + 1 + d + 1))), (16, .long (lN (((paR fw lag trig fl fm num (d)).2.2.2) + ((paR fw lag trig fl fm num (d)).1)))), (19, .int (nI (fm + 1 + d - lag))), (0, .int (nI (k))), (1, .ref a_zw), (2, .ref a_zi), (3, .ref a_zc), (4, .ref a_zg), (5, .ref a_zf), (6, .ref a_zn), (7, .ref a_zl), (8, .ref a_zr), (9, .ref a_ze), (10, .ref a_zq), (11, .long (lN ((paR fw lag trig fl fm num (d)).1))), (13, .int (nI ((paR fw lag trig fl fm num (d)).2.2.1))), (14, .long (lN ((paR fw lag trig fl fm num (d)).2.1)))]) hx hb dL_due_212 hl (k := 16) rfl (nI_add _ 1) (by decide) rfl (fun ls hl => ?_)
        refine lv_goto (tgt := 65) hx hb dL_due_215 (by decide) ?_
        have hP : gvP D vwCl ws _ := g_trP (rfl) hP
        have hD : gvD A ws := g_trD (rfl) hD
        exact ih_d H locs ls hP hD hS (lv_sub hl [3, 4, 5, 6, 7, 8, 9, 10, 11, 12, 13, 14, 15, 16, 1, 0] (by rw [show (paR fw lag trig fl fm num (d + 1)) = payS lag trig fl num (fm + 1 + d) (paR fw lag trig fl fm num (d)) from rfl, payC_f (Or.inr (Or.inl c_92))]; rfl))
      · refine lv_iload hx hb dL_due_95 (lv_at hl 0 rfl) ?_
        refine lv_iconst (v := nI 1) hx hb dL_due_97 (by decide) ?_
        refine lv_aload_n hx hb dL_due_98 rfl (lv_at hl 3 rfl) ?_
        refine lv_aload_n hx hb dL_due_99 rfl (lv_at hl 4 rfl) ?_
        refine lv_aload hx hb dL_due_100 (lv_at hl 5 rfl) ?_
        refine lv_aload hx hb dL_due_102 (lv_at hl 6 rfl) ?_
        refine lv_aload hx hb dL_due_104 (lv_at hl 7 rfl) ?_
        refine lv_aload hx hb dL_due_106 (lv_at hl 8 rfl) ?_
        refine lv_aload hx hb dL_due_108 (lv_at hl 9 rfl) ?_
        refine lv_aload hx hb dL_due_110 (lv_at hl 10 rfl) ?_
        refine lv_aload hx hb dL_due_112 (lv_at hl 11 rfl) ?_
        refine gc_S_i (As := [.int (nI (fm + 1 + d - lag)), .int (gb (true)), .ref a_zi, .ref a_zc, .ref a_zg, .ref a_zf, .ref a_zn, .ref a_zl, .ref a_zr, .ref a_ze, .ref a_zq]) (rest := []) (c_L_number l f0_zi f0_zc f0_zg f0_zf f0_zn f0_zl f0_zr f0_ze f0_zq b_zi b_zc b_zg b_zf b_zn b_zl b_zr b_ze b_zq (n := n) (T := T) (MM := MM) (G := G) (M := M) (o := o) (b := b) (pr := pr) (rel := rel) (grp := grp) (shr := shr) (idx := idx) (by omega) hL) ⟨hx, hb, hml, hown, hts⟩ (va_cwS 11 hts gL_due_L_number rfl rfl rfl (by decide +kernel) ⟨Nat.le_of_ble_eq_true rfl, Nat.le_of_ble_eq_true rfl⟩) hE hP hD hS hA rfl rfl hl.1 (Nat.le_of_ble_eq_true rfl) dL_due_114 ⟨Nat.le_of_ble_eq_true rfl, Nat.le_of_ble_eq_true rfl⟩ (fun r_114 u_114 H locs hP hD hS q_114 => ?_)
        have q9 := q_114.trans (congrArg nI (hnum _).symm)
        subst q9
        have hnb := hnb9 (fm + 1 + d - lag) (by omega)
        refine lv_i2l (v := lN (num (fm + 1 + d - lag))) hx hb dL_due_117 (nI_l (by omega)) ?_
        refine lv_lstore (lv' := [(20, .long (lN (num (fm + 1 + d - lag)))), (19, .int (nI (fm + 1 + d - lag))), (0, .int (nI (k))), (1, .ref a_zw), (2, .ref a_zi), (3, .ref a_zc), (4, .ref a_zg), (5, .ref a_zf), (6, .ref a_zn), (7, .ref a_zl), (8, .ref a_zr), (9, .ref a_ze), (10, .ref a_zq), (11, .long (lN ((paR fw lag trig fl fm num (d)).1))), (13, .int (nI ((paR fw lag trig fl fm num (d)).2.2.1))), (14, .long (lN ((paR fw lag trig fl fm num (d)).2.1))), (16, .long (lN ((paR fw lag trig fl fm num (d)).2.2.2))), (18, .int (nI (fm + 1 + d)))]) hx hb dL_due_118 hl (by decide) rfl (fun ls hl => ?_)
        refine lv_lload hx hb dL_due_120 (lv_at hl 13 rfl) ?_
        refine lv_lload hx hb dL_due_122 (lv_at hl 0 rfl) ?_
        refine lv_lload hx hb dL_due_124 (lv_at hl 15 rfl) ?_
        refine lv_aload_n hx hb dL_due_126 rfl (lv_at hl 3 rfl) ?_
        refine lv_bipush (v := nI 10) hx hb dL_due_127 (by decide) ?_
        refine lv_iload_n hx hb dL_due_129 rfl (lv_at hl 2 rfl) ?_
        refine g_imul hx hb dL_due_130 (pk_mul _ _) ?_
        refine lv_iconst (v := nI 2) hx hb dL_due_131 (by decide) ?_
        refine g_iadd hx hb dL_due_132 (nI_add _ _) ?_
        refine g_Lald hx hb hE hP _ f0_zw (by omega) (by decide) dL_due_133 ?_
        have bd_133_7 := b_zw ((10 * k) + 2)
        refine g_lv (v' := lN (trig)) (congrArg lN hw9.2.2.2.1) ?_
        refine g_reg (J := 152) (st1 := [.int (gb (fl)), .long (lN (trig)), .long (lN ((paR fw lag trig fl fm num (d)).2.1)), .long (lN (num (fm + 1 + d - lag))), .long (lN ((paR fw lag trig fl fm num (d)).1))]) hP hD hS (fun K_152 => ?_) (fun H locs hP hD hS => ?_)
        · refine lv_aload_n hx hb dL_due_134 rfl (lv_at hl 3 rfl) ?_
          refine lv_bipush (v := nI 10) hx hb dL_due_135 (by decide) ?_
          refine lv_iload_n hx hb dL_due_137 rfl (lv_at hl 2 rfl) ?_
          refine g_imul hx hb dL_due_138 (pk_mul _ _) ?_
          refine lv_iconst (v := nI 3) hx hb dL_due_139 (by decide) ?_
          refine g_iadd hx hb dL_due_140 (nI_add _ _) ?_
          refine g_Lald hx hb hE hP _ f0_zw (by omega) (by decide) dL_due_141 ?_
          have bd_141_8 := b_zw ((10 * k) + 3)
          refine lv_lconst (v := lN 1) hx hb dL_due_142 (by decide) ?_
          refine g_lcmp_ne (tgt := 151) hx hb (by have := b_zw (10 * k + 3); omega) (by decide) dL_due_143 dL_due_144 (by decide) (fun c_143 => ?_) (fun c_143 => ?_)
          · refine lv_iconst (v := nI 0) hx hb dL_due_151 (by decide) ?_
            refine g_iv (v' := (gb (fl))) ((congrArg gb (hw9.2.2.2.2.symm.trans (decide_eq_false c_143)).symm)) ?_
            exact K_152 _ _ hP hD hS
          · refine lv_iconst (v := nI 1) hx hb dL_due_147 (by decide) ?_
            refine lv_goto (tgt := 152) hx hb dL_due_148 (by decide) ?_
            refine g_iv (v' := (gb (fl))) ((congrArg gb (hw9.2.2.2.2.symm.trans (decide_eq_true c_143)).symm)) ?_
            exact K_152 _ _ hP hD hS
        refine gc_S_l (As := [.long (lN ((paR fw lag trig fl fm num (d)).1)), .long (lN (num (fm + 1 + d - lag))), .long (lN ((paR fw lag trig fl fm num (d)).2.1)), .long (lN (trig)), .int (gb (fl))]) (rest := []) (c_L_tied l hpb.1 (by omega) hpb.2.1 hpb.2.2.1 htr) ⟨hx, hb, hml, hown, hts⟩ (va_cwS 5 hts gL_due_L_tied rfl rfl rfl (by decide +kernel) ⟨Nat.le_of_ble_eq_true rfl, Nat.le_of_ble_eq_true rfl⟩) hE hP hD hS hA rfl rfl hl.1 (Nat.le_of_ble_eq_true rfl) dL_due_152 ⟨Nat.le_of_ble_eq_true rfl, Nat.le_of_ble_eq_true rfl⟩ (fun r_152 u_152 H locs hP hD hS q_152 => ?_)
        subst q_152
        cases htt : tie (paR fw lag trig fl fm num (d)).2.1 trig fl (num (fm + 1 + d - lag))
        · refine g_lv (v' := (-1)) (tieV_f htt) ?_
          refine lv_lstore (lv' := [(22, .long (-1)), (20, .long (lN (num (fm + 1 + d - lag)))), (19, .int (nI (fm + 1 + d - lag))), (0, .int (nI (k))), (1, .ref a_zw), (2, .ref a_zi), (3, .ref a_zc), (4, .ref a_zg), (5, .ref a_zf), (6, .ref a_zn), (7, .ref a_zl), (8, .ref a_zr), (9, .ref a_ze), (10, .ref a_zq), (11, .long (lN ((paR fw lag trig fl fm num (d)).1))), (13, .int (nI ((paR fw lag trig fl fm num (d)).2.2.1))), (14, .long (lN ((paR fw lag trig fl fm num (d)).2.1))), (16, .long (lN ((paR fw lag trig fl fm num (d)).2.2.2))), (18, .int (nI (fm + 1 + d)))]) hx hb dL_due_155 hl (by decide) rfl (fun ls hl => ?_)
          refine lv_lload hx hb dL_due_157 (lv_at hl 0 rfl) ?_
          refine lv_lconst (v := lN 0) hx hb dL_due_159 (by decide) ?_
          refine g_m1_ge (tgt := 169) hx hb dL_due_160 dL_due_161 (by decide) ?_
          refine lv_iload hx hb dL_due_164 (lv_at hl 15 rfl) ?_
          refine lv_goto (tgt := 171) hx hb dL_due_166 (by decide) ?_
          refine lv_istore (lv' := [(13, .int (nI ((paR fw lag trig fl fm num (d)).2.2.1))), (22, .long (-1)), (20, .long (lN (num (fm + 1 + d - lag)))), (19, .int (nI (fm + 1 + d - lag))), (0, .int (nI (k))), (1, .ref a_zw), (2, .ref a_zi), (3, .ref a_zc), (4, .ref a_zg), (5, .ref a_zf), (6, .ref a_zn), (7, .ref a_zl), (8, .ref a_zr), (9, .ref a_ze), (10, .ref a_zq), (11, .long (lN ((paR fw lag trig fl fm num (d)).1))), (14, .long (lN ((paR fw lag trig fl fm num (d)).2.1))), (16, .long (lN ((paR fw lag trig fl fm num (d)).2.2.2))), (18, .int (nI (fm + 1 + d)))]) hx hb dL_due_171 hl (by decide) rfl (fun ls hl => ?_)
          refine lv_lload hx hb dL_due_173 (lv_at hl 1 rfl) ?_
          refine lv_lconst (v := lN 0) hx hb dL_due_175 (by decide) ?_
          refine g_m1_ge (tgt := 185) hx hb dL_due_176 dL_due_177 (by decide) ?_
          refine lv_lload hx hb dL_due_180 (lv_at hl 16 rfl) ?_
          refine lv_goto (tgt := 187) hx hb dL_due_182 (by decide) ?_
          refine lv_lstore (lv' := [(14, .long (lN ((paR fw lag trig fl fm num (d)).2.1))), (13, .int (nI ((paR fw lag trig fl fm num (d)).2.2.1))), (22, .long (-1)), (20, .long (lN (num (fm + 1 + d - lag)))), (19, .int (nI (fm + 1 + d - lag))), (0, .int (nI (k))), (1, .ref a_zw), (2, .ref a_zi), (3, .ref a_zc), (4, .ref a_zg), (5, .ref a_zf), (6, .ref a_zn), (7, .ref a_zl), (8, .ref a_zr), (9, .ref a_ze), (10, .ref a_zq), (11, .long (lN ((paR fw lag trig fl fm num (d)).1))), (16, .long (lN ((paR fw lag trig fl fm num (d)).2.2.2))), (18, .int (nI (fm + 1 + d)))]) hx hb dL_due_187 hl (by decide) rfl (fun ls hl => ?_)
          refine lv_lload hx hb dL_due_189 (lv_at hl 2 rfl) ?_
          refine lv_lconst (v := lN 0) hx hb dL_due_191 (by decide) ?_
          refine g_m1_ge (tgt := 201) hx hb dL_due_192 dL_due_193 (by decide) ?_
          refine lv_lload hx hb dL_due_196 (lv_at hl 16 rfl) ?_
          refine lv_goto (tgt := 203) hx hb dL_due_198 (by decide) ?_
          refine lv_lstore (lv' := [(11, .long (lN ((paR fw lag trig fl fm num (d)).1))), (14, .long (lN ((paR fw lag trig fl fm num (d)).2.1))), (13, .int (nI ((paR fw lag trig fl fm num (d)).2.2.1))), (22, .long (-1)), (20, .long (lN (num (fm + 1 + d - lag)))), (19, .int (nI (fm + 1 + d - lag))), (0, .int (nI (k))), (1, .ref a_zw), (2, .ref a_zi), (3, .ref a_zc), (4, .ref a_zg), (5, .ref a_zf), (6, .ref a_zn), (7, .ref a_zl), (8, .ref a_zr), (9, .ref a_ze), (10, .ref a_zq), (16, .long (lN ((paR fw lag trig fl fm num (d)).2.2.2))), (18, .int (nI (fm + 1 + d)))]) hx hb dL_due_203 hl (by decide) rfl (fun ls hl => ?_)
          refine lv_lload hx hb dL_due_205 (lv_at hl 17 rfl) ?_
          refine lv_lload hx hb dL_due_207 (lv_at hl 0 rfl) ?_
          refine g_ladd hx hb dL_due_209 (lN_add _ _) ?_
          refine lv_lstore (lv' := [(16, .long (lN (((paR fw lag trig fl fm num (d)).2.2.2) + ((paR fw lag trig fl fm num (d)).1)))), (11, .long (lN ((paR fw lag trig fl fm num (d)).1))), (14, .long (lN ((paR fw lag trig fl fm num (d)).2.1))), (13, .int (nI ((paR fw lag trig fl fm num (d)).2.2.1))), (22, .long (-1)), (20, .long (lN (num (fm + 1 + d - lag)))), (19, .int (nI (fm + 1 + d - lag))), (0, .int (nI (k))), (1, .ref a_zw), (2, .ref a_zi), (3, .ref a_zc), (4, .ref a_zg), (5, .ref a_zf), (6, .ref a_zn), (7, .ref a_zl), (8, .ref a_zr), (9, .ref a_ze), (10, .ref a_zq), (18, .int (nI (fm + 1 + d)))]) hx hb dL_due_210 hl (by decide) rfl (fun ls hl => ?_)
          refine lv_iinc (v := nI (fm + 1 + d + 1)) (lv' := [(18, .int (nI (fm + 1 + d + 1))), (16, .long (lN (((paR fw lag trig fl fm num (d)).2.2.2) + ((paR fw lag trig fl fm num (d)).1)))), (11, .long (lN ((paR fw lag trig fl fm num (d)).1))), (14, .long (lN ((paR fw lag trig fl fm num (d)).2.1))), (13, .int (nI ((paR fw lag trig fl fm num (d)).2.2.1))), (22, .long (-1)), (20, .long (lN (num (fm + 1 + d - lag)))), (19, .int (nI (fm + 1 + d - lag))), (0, .int (nI (k))), (1, .ref a_zw), (2, .ref a_zi), (3, .ref a_zc), (4, .ref a_zg), (5, .ref a_zf), (6, .ref a_zn), (7, .ref a_zl), (8, .ref a_zr), (9, .ref a_ze), (10, .ref a_zq)]) hx hb dL_due_212 hl (k := 18) rfl (nI_add _ 1) (by decide) rfl (fun ls hl => ?_)
          refine lv_goto (tgt := 65) hx hb dL_due_215 (by decide) ?_
          have hP : gvP D vwCl ws _ := g_trP (rfl) hP
          have hD : gvD A ws := g_trD (rfl) hD
          exact ih_d H locs ls hP hD hS (lv_sub hl [8, 9, 10, 11, 12, 13, 14, 15, 16, 17, 18, 2, 4, 3, 1, 0] (by rw [show (paR fw lag trig fl fm num (d + 1)) = payS lag trig fl num (fm + 1 + d) (paR fw lag trig fl fm num (d)) from rfl, payC_f (Or.inr (Or.inr htt))]; rfl))
        · refine g_lv (v' := (lN (pW (paR fw lag trig fl fm num (d)).1 (num (fm + 1 + d - lag)) (paR fw lag trig fl fm num (d)).2.1))) (tieV_t htt) ?_
          refine lv_lstore (lv' := [(22, .long (lN (pW (paR fw lag trig fl fm num (d)).1 (num (fm + 1 + d - lag)) (paR fw lag trig fl fm num (d)).2.1))), (20, .long (lN (num (fm + 1 + d - lag)))), (19, .int (nI (fm + 1 + d - lag))), (0, .int (nI (k))), (1, .ref a_zw), (2, .ref a_zi), (3, .ref a_zc), (4, .ref a_zg), (5, .ref a_zf), (6, .ref a_zn), (7, .ref a_zl), (8, .ref a_zr), (9, .ref a_ze), (10, .ref a_zq), (11, .long (lN ((paR fw lag trig fl fm num (d)).1))), (13, .int (nI ((paR fw lag trig fl fm num (d)).2.2.1))), (14, .long (lN ((paR fw lag trig fl fm num (d)).2.1))), (16, .long (lN ((paR fw lag trig fl fm num (d)).2.2.2))), (18, .int (nI (fm + 1 + d)))]) hx hb dL_due_155 hl (by decide) rfl (fun ls hl => ?_)
          refine lv_lload hx hb dL_due_157 (lv_at hl 0 rfl) ?_
          refine lv_lconst (v := lN 0) hx hb dL_due_159 (by decide) ?_
          refine g_lcmp_ge (tgt := 169) hx hb (by have := pW_le (paR fw lag trig fl fm num (d)).1 (num (fm + 1 + d - lag)) (paR fw lag trig fl fm num (d)).2.1; omega) (by decide) dL_due_160 dL_due_161 (by decide) (fun c_160 => ?_) (fun c_160 => absurd c_160 (by omega))
          refine lv_iload hx hb dL_due_169 (lv_at hl 2 rfl) ?_
          refine lv_istore (lv' := [(13, .int (nI (fm + 1 + d - lag))), (22, .long (lN (pW (paR fw lag trig fl fm num (d)).1 (num (fm + 1 + d - lag)) (paR fw lag trig fl fm num (d)).2.1))), (20, .long (lN (num (fm + 1 + d - lag)))), (19, .int (nI (fm + 1 + d - lag))), (0, .int (nI (k))), (1, .ref a_zw), (2, .ref a_zi), (3, .ref a_zc), (4, .ref a_zg), (5, .ref a_zf), (6, .ref a_zn), (7, .ref a_zl), (8, .ref a_zr), (9, .ref a_ze), (10, .ref a_zq), (11, .long (lN ((paR fw lag trig fl fm num (d)).1))), (14, .long (lN ((paR fw lag trig fl fm num (d)).2.1))), (16, .long (lN ((paR fw lag trig fl fm num (d)).2.2.2))), (18, .int (nI (fm + 1 + d)))]) hx hb dL_due_171 hl (by decide) rfl (fun ls hl => ?_)
          refine lv_lload hx hb dL_due_173 (lv_at hl 1 rfl) ?_
          refine lv_lconst (v := lN 0) hx hb dL_due_175 (by decide) ?_
          refine g_lcmp_ge (tgt := 185) hx hb (by have := pW_le (paR fw lag trig fl fm num (d)).1 (num (fm + 1 + d - lag)) (paR fw lag trig fl fm num (d)).2.1; omega) (by decide) dL_due_176 dL_due_177 (by decide) (fun c_176 => ?_) (fun c_176 => absurd c_176 (by omega))
          refine lv_lload hx hb dL_due_185 (lv_at hl 2 rfl) ?_
          refine lv_lstore (lv' := [(14, .long (lN (num (fm + 1 + d - lag)))), (13, .int (nI (fm + 1 + d - lag))), (22, .long (lN (pW (paR fw lag trig fl fm num (d)).1 (num (fm + 1 + d - lag)) (paR fw lag trig fl fm num (d)).2.1))), (20, .long (lN (num (fm + 1 + d - lag)))), (19, .int (nI (fm + 1 + d - lag))), (0, .int (nI (k))), (1, .ref a_zw), (2, .ref a_zi), (3, .ref a_zc), (4, .ref a_zg), (5, .ref a_zf), (6, .ref a_zn), (7, .ref a_zl), (8, .ref a_zr), (9, .ref a_ze), (10, .ref a_zq), (11, .long (lN ((paR fw lag trig fl fm num (d)).1))), (16, .long (lN ((paR fw lag trig fl fm num (d)).2.2.2))), (18, .int (nI (fm + 1 + d)))]) hx hb dL_due_187 hl (by decide) rfl (fun ls hl => ?_)
          refine lv_lload hx hb dL_due_189 (lv_at hl 2 rfl) ?_
          refine lv_lconst (v := lN 0) hx hb dL_due_191 (by decide) ?_
          refine g_lcmp_ge (tgt := 201) hx hb (by have := pW_le (paR fw lag trig fl fm num (d)).1 (num (fm + 1 + d - lag)) (paR fw lag trig fl fm num (d)).2.1; omega) (by decide) dL_due_192 dL_due_193 (by decide) (fun c_192 => ?_) (fun c_192 => absurd c_192 (by omega))
          refine lv_lload hx hb dL_due_201 (lv_at hl 2 rfl) ?_
          refine lv_lstore (lv' := [(11, .long (lN (pW (paR fw lag trig fl fm num (d)).1 (num (fm + 1 + d - lag)) (paR fw lag trig fl fm num (d)).2.1))), (14, .long (lN (num (fm + 1 + d - lag)))), (13, .int (nI (fm + 1 + d - lag))), (22, .long (lN (pW (paR fw lag trig fl fm num (d)).1 (num (fm + 1 + d - lag)) (paR fw lag trig fl fm num (d)).2.1))), (20, .long (lN (num (fm + 1 + d - lag)))), (19, .int (nI (fm + 1 + d - lag))), (0, .int (nI (k))), (1, .ref a_zw), (2, .ref a_zi), (3, .ref a_zc), (4, .ref a_zg), (5, .ref a_zf), (6, .ref a_zn), (7, .ref a_zl), (8, .ref a_zr), (9, .ref a_ze), (10, .ref a_zq), (16, .long (lN ((paR fw lag trig fl fm num (d)).2.2.2))), (18, .int (nI (fm + 1 + d)))]) hx hb dL_due_203 hl (by decide) rfl (fun ls hl => ?_)
          refine lv_lload hx hb dL_due_205 (lv_at hl 17 rfl) ?_
          refine lv_lload hx hb dL_due_207 (lv_at hl 0 rfl) ?_
          refine g_ladd hx hb dL_due_209 (lN_add _ _) ?_
          refine lv_lstore (lv' := [(16, .long (lN (((paR fw lag trig fl fm num (d)).2.2.2) + (pW (paR fw lag trig fl fm num (d)).1 (num (fm + 1 + d - lag)) (paR fw lag trig fl fm num (d)).2.1)))), (11, .long (lN (pW (paR fw lag trig fl fm num (d)).1 (num (fm + 1 + d - lag)) (paR fw lag trig fl fm num (d)).2.1))), (14, .long (lN (num (fm + 1 + d - lag)))), (13, .int (nI (fm + 1 + d - lag))), (22, .long (lN (pW (paR fw lag trig fl fm num (d)).1 (num (fm + 1 + d - lag)) (paR fw lag trig fl fm num (d)).2.1))), (20, .long (lN (num (fm + 1 + d - lag)))), (19, .int (nI (fm + 1 + d - lag))), (0, .int (nI (k))), (1, .ref a_zw), (2, .ref a_zi), (3, .ref a_zc), (4, .ref a_zg), (5, .ref a_zf), (6, .ref a_zn), (7, .ref a_zl), (8, .ref a_zr), (9, .ref a_ze), (10, .ref a_zq), (18, .int (nI (fm + 1 + d)))]) hx hb dL_due_210 hl (by decide) rfl (fun ls hl => ?_)
          refine lv_iinc (v := nI (fm + 1 + d + 1)) (lv' := [(18, .int (nI (fm + 1 + d + 1))), (16, .long (lN (((paR fw lag trig fl fm num (d)).2.2.2) + (pW (paR fw lag trig fl fm num (d)).1 (num (fm + 1 + d - lag)) (paR fw lag trig fl fm num (d)).2.1)))), (11, .long (lN (pW (paR fw lag trig fl fm num (d)).1 (num (fm + 1 + d - lag)) (paR fw lag trig fl fm num (d)).2.1))), (14, .long (lN (num (fm + 1 + d - lag)))), (13, .int (nI (fm + 1 + d - lag))), (22, .long (lN (pW (paR fw lag trig fl fm num (d)).1 (num (fm + 1 + d - lag)) (paR fw lag trig fl fm num (d)).2.1))), (20, .long (lN (num (fm + 1 + d - lag)))), (19, .int (nI (fm + 1 + d - lag))), (0, .int (nI (k))), (1, .ref a_zw), (2, .ref a_zi), (3, .ref a_zc), (4, .ref a_zg), (5, .ref a_zf), (6, .ref a_zn), (7, .ref a_zl), (8, .ref a_zr), (9, .ref a_ze), (10, .ref a_zq)]) hx hb dL_due_212 hl (k := 18) rfl (nI_add _ 1) (by decide) rfl (fun ls hl => ?_)
          refine lv_goto (tgt := 65) hx hb dL_due_215 (by decide) ?_
          have hP : gvP D vwCl ws _ := g_trP (rfl) hP
          have hD : gvD A ws := g_trD (rfl) hD
          exact ih_d H locs ls hP hD hS (lv_sub hl [8, 9, 10, 11, 12, 13, 14, 15, 16, 17, 18, 2, 4, 3, 1, 0] (by rw [show (paR fw lag trig fl fm num (d + 1)) = payS lag trig fl num (fm + 1 + d) (paR fw lag trig fl fm num (d)) from rfl, payC_t hs c_92 htt]; rfl))
