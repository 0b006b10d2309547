/-! the law's comparison -/
theorem isv_t {b : Bool} (h : Dgt (if b = true then FP.dconst1 else 0) 4602678819172646912) : b = true := by
  cases b
  · exact absurd h (by rw [if_neg (by decide)]; exact zero_ngt)
  · rfl
theorem isv_f {b : Bool} (h : ¬ Dgt (if b = true then FP.dconst1 else 0) 4602678819172646912) : b = false := by
  cases b
  · rfl
  · exact absurd (by rw [if_pos rfl]; exact one_gt) h
set_option maxHeartbeats 4000000 in
set_option maxRecDepth 100000 in
theorem c_L_same (l : Launch) {D : va_G} {ws : va_W} {ad y : Nat → Nat} {nw : Nat} {n : Nat} {nc : Nat} {qn : Nat} {fq : Nat} {mc1 : Int32} {mc2 : Int32} {aita : Nat} {acta : Nat} {qe : Nat → Option Nat} {cents : Nat → Nat} {grams : Nat → Nat} {cf : Nat → Bool} {cc : Nat → Nat} {fx : Nat → Bool} {lc : Nat → Nat} {lg : Nat → Nat} {told : Nat → Nat} {adp : Nat → Nat} {shr : Nat → UInt64} {pr : Nat → UInt64} {rel : Nat → UInt64} {grp : Nat → UInt64} {idx : Nat → UInt64} {num : Nat → Nat} {zi : Nat → Nat} {zc : Nat → Nat} {zg : Nat → Nat} {zf : Nat → Nat} {zn : Nat → Nat} {zl : Nat → Nat} {zr : Nat → Nat} {ze : Nat → Nat} {zt : Nat → Nat} {za : Nat → Nat} {zw : Nat → Nat} {zq : Nat → Nat} {G : Nat → Nat} {M : Nat → Nat} {Sn : Nat → Nat} {fw : Nat → Nat} {lag : Nat → Nat} {trig : Nat → Nat} {fl : Nat → Bool} {fm : Nat → Nat} {cs : Nat → Nat × Nat × Nat × Nat} {pi : Nat} {pc : Nat} {yv : Int32} (hW : SW ad y nw n nc qn fq mc1 mc2 aita acta qe cents grams cf cc fx lc lg told adp shr pr rel grp idx num zi zc zg zf zn zl zr ze zt za zw zq G M Sn fw lag trig fl fm cs pi pc ws) (hp : LInv nw n nc qn fq cents grams cf cc fx lc lg told adp shr pr rel grp idx num zi zc zg zf zn zl zr ze zt za zw zq G M Sn fw lag trig fl fm cs)  : gMi l yL_same wsL_same ({ frames := 8, cells := 3, slots := 27, locals := 244 }) D y [.ref (ad 1), .int (yv), .ref (ad 30), .ref (ad 31), .ref (ad 32), .ref (ad 33), .ref (ad 34), .ref (ad 35), .ref (ad 36), .ref (ad 37), .ref (ad 40), .ref (ad 41)] ws (fun r (u : va_W) => r = gb true ∧ SW ad y nw n nc qn fq mc1 mc2 aita acta qe cents grams cf cc fx lc lg told adp shr pr rel grp idx num zi zc zg zf zn zl zr ze zt za zw zq G M Sn fw lag trig fl fm cs pi pc u) (fun (u : va_W) => u) := by
  refine g_met_z (cc := cL_same) (maxL := 31) (by decide) rfl (Nat.le_of_ble_eq_true rfl) ?_
  intro p e s m below meth c A hx hb hml hr hts hown hnm hlocks hE hP hD hS hA ls hl
  have hown : s.vm.findClass RL = some m.cls := hown
  have hl : lv_has ls 31 [(0, .ref (ad 1)), (1, .int (yv)), (2, .ref (ad 30)), (3, .ref (ad 31)), (4, .ref (ad 32)), (5, .ref (ad 33)), (6, .ref (ad 34)), (7, .ref (ad 35)), (8, .ref (ad 36)), (9, .ref (ad 37)), (10, .ref (ad 40)), (11, .ref (ad 41))] := hl
  have hLF := hp.ser.1
  have hB := hp.ser.2
  have hS9 := hp.sh
  have hp0 := hp
  obtain ⟨hq, hs3, hdb, bcc, bta, bz, hgm, hit, hem, hcg, hccg, hlg, hdz, hz2, hser, hrz, hsh, hta, hnum, hcw, hcb⟩ := hp0
  obtain ⟨relT, prT, grpT, idxT, hsT⟩ := SerOK.ex cf cc grams lc lg M G shr nw (by omega)
  have hLT := (hp.serT (Nat.le_refl nw) hsT).1
  have hBT := (hp.serT (Nat.le_refl nw) hsT).2
  have hLF9 := hLF
  obtain ⟨l1, l2, l3, l4, l5, l6, l7, l8⟩ := hLF9
  obtain ⟨b_zi, b_zc, b_zg, b_zf, b_zn, b_zl, b_zr, b_ze, b_zt, b_za, b_zw, b_zq⟩ := bz
  obtain ⟨fs9, f0_off⟩ := sw_off hW
  have f0_zi := sw_zi hW
  have f0_zc := sw_zc hW
  have f0_zg := sw_zg hW
  have f0_zf := sw_zf hW
  have f0_zn := sw_zn hW
  have f0_zl := sw_zl hW
  have f0_zr := sw_zr hW
  have f0_ze := sw_ze hW
  have f0_zw := sw_zw hW
  have f0_zq := sw_zq hW
  refine lv_aload_n hx hb dL_same_0 rfl (lv_at hl 0 rfl) ?_
  refine lv_iconst (v := nI 0) hx hb dL_same_1 (by decide) ?_
  refine gc_V_i (As := [.int (nI (0))]) (rest := []) (q0_count l hW hp ) ⟨hx, hb, hml, hown, hts⟩ (cwV 1 hts gL_same_X6_count rfl rfl rfl (by decide +kernel) ⟨Nat.le_of_ble_eq_true rfl, Nat.le_of_ble_eq_true rfl⟩) hE hP hD hS hA _ f0_off rfl rfl rfl rfl hl.1 (Nat.le_of_ble_eq_true rfl) dL_same_2 ⟨Nat.le_of_ble_eq_true rfl, Nat.le_of_ble_eq_true rfl⟩ (fun r_2 u_2 H locs hP hD hS q_2 => ?_)
  obtain ⟨q9, hW⟩ := q_2
  subst q9
  obtain ⟨fs9, f_off⟩ := sw_off hW
  have f_zi := sw_zi hW
  have f_zc := sw_zc hW
  have f_zg := sw_zg hW
  have f_zf := sw_zf hW
  have f_zn := sw_zn hW
  have f_zl := sw_zl hW
  have f_zr := sw_zr hW
  have f_ze := sw_ze hW
  have f_zw := sw_zw hW
  have f_zq := sw_zq hW
  refine lv_aload hx hb dL_same_5 (lv_at hl 11 rfl) ?_
  refine lv_iconst (v := nI 0) hx hb dL_same_7 (by decide) ?_
  refine g_nald hx hb hE hP _ f_zq (by omega) (by decide) dL_same_8 ?_
  have bd_8_1 := b_zq (0)
  refine g_icmp_ne (tgt := 64) hx hb (by have := b_zq 0; omega) (by have := b_zq 0; omega) dL_same_9 (by decide) (fun c_9 => absurd c_9 (fun z => z hq.1.symm)) (fun c_9 => ?_)
  refine lv_aload_n hx hb dL_same_12 rfl (lv_at hl 0 rfl) ?_
  refine lv_iconst (v := nI 1) hx hb dL_same_13 (by decide) ?_
  refine gc_V_i (As := [.int (nI (1))]) (rest := []) (q1_count l hW hp ) ⟨hx, hb, hml, hown, hts⟩ (cwV 1 hts gL_same_X6_count rfl rfl rfl (by decide +kernel) ⟨Nat.le_of_ble_eq_true rfl, Nat.le_of_ble_eq_true rfl⟩) hE hP hD hS hA _ f_off rfl rfl rfl rfl hl.1 (Nat.le_of_ble_eq_true rfl) dL_same_14 ⟨Nat.le_of_ble_eq_true rfl, Nat.le_of_ble_eq_true rfl⟩ (fun r_14 u_14 H locs hP hD hS q_14 => ?_)
  obtain ⟨q9, hW⟩ := q_14
  subst q9
  obtain ⟨fs9, f_off⟩ := sw_off hW
  have f_zi := sw_zi hW
  have f_zc := sw_zc hW
  have f_zg := sw_zg hW
  have f_zf := sw_zf hW
  have f_zn := sw_zn hW
  have f_zl := sw_zl hW
  have f_zr := sw_zr hW
  have f_ze := sw_ze hW
  have f_zw := sw_zw hW
  have f_zq := sw_zq hW
  refine lv_aload hx hb dL_same_17 (lv_at hl 11 rfl) ?_
  refine lv_iconst (v := nI 1) hx hb dL_same_19 (by decide) ?_
  refine g_nald hx hb hE hP _ f_zq (by omega) (by decide) dL_same_20 ?_
  have bd_20_2 := b_zq (1)
  refine g_icmp_ne (tgt := 64) hx hb (by have := b_zq 1; omega) (by have := b_zq 1; omega) dL_same_21 (by decide) (fun c_21 => absurd c_21 (fun z => z hq.2.1.symm)) (fun c_21 => ?_)
  refine lv_aload_n hx hb dL_same_24 rfl (lv_at hl 0 rfl) ?_
  refine lv_iconst (v := nI 2) hx hb dL_same_25 (by decide) ?_
  refine gc_V_i (As := [.int (nI (2))]) (rest := []) (q2_count l hW hp ) ⟨hx, hb, hml, hown, hts⟩ (cwV 1 hts gL_same_X6_count rfl rfl rfl (by decide +kernel) ⟨Nat.le_of_ble_eq_true rfl, Nat.le_of_ble_eq_true rfl⟩) hE hP hD hS hA _ f_off rfl rfl rfl rfl hl.1 (Nat.le_of_ble_eq_true rfl) dL_same_26 ⟨Nat.le_of_ble_eq_true rfl, Nat.le_of_ble_eq_true rfl⟩ (fun r_26 u_26 H locs hP hD hS q_26 => ?_)
  obtain ⟨q9, hW⟩ := q_26
  subst q9
  obtain ⟨fs9, f_off⟩ := sw_off hW
  have f_zi := sw_zi hW
  have f_zc := sw_zc hW
  have f_zg := sw_zg hW
  have f_zf := sw_zf hW
  have f_zn := sw_zn hW
  have f_zl := sw_zl hW
  have f_zr := sw_zr hW
  have f_ze := sw_ze hW
  have f_zw := sw_zw hW
  have f_zq := sw_zq hW
  refine lv_aload hx hb dL_same_29 (lv_at hl 11 rfl) ?_
  refine lv_iconst (v := nI 2) hx hb dL_same_31 (by decide) ?_
  refine g_nald hx hb hE hP _ f_zq (by omega) (by decide) dL_same_32 ?_
  have bd_32_3 := b_zq (2)
  refine g_icmp_ne (tgt := 64) hx hb (by have := b_zq 2; omega) (by have := b_zq 2; omega) dL_same_33 (by decide) (fun c_33 => absurd c_33 (fun z => z hq.2.2.1.symm)) (fun c_33 => ?_)
  refine lv_aload_n hx hb dL_same_36 rfl (lv_at hl 0 rfl) ?_
  refine lv_iconst (v := nI 3) hx hb dL_same_37 (by decide) ?_
  refine gc_V_i (As := [.int (nI (3))]) (rest := []) (q3_count l hW hp ) ⟨hx, hb, hml, hown, hts⟩ (cwV 1 hts gL_same_X6_count rfl rfl rfl (by decide +kernel) ⟨Nat.le_of_ble_eq_true rfl, Nat.le_of_ble_eq_true rfl⟩) hE hP hD hS hA _ f_off rfl rfl rfl rfl hl.1 (Nat.le_of_ble_eq_true rfl) dL_same_38 ⟨Nat.le_of_ble_eq_true rfl, Nat.le_of_ble_eq_true rfl⟩ (fun r_38 u_38 H locs hP hD hS q_38 => ?_)
  obtain ⟨q9, hW⟩ := q_38
  subst q9
  obtain ⟨fs9, f_off⟩ := sw_off hW
  have f_zi := sw_zi hW
  have f_zc := sw_zc hW
  have f_zg := sw_zg hW
  have f_zf := sw_zf hW
  have f_zn := sw_zn hW
  have f_zl := sw_zl hW
  have f_zr := sw_zr hW
  have f_ze := sw_ze hW
  have f_zw := sw_zw hW
  have f_zq := sw_zq hW
  refine lv_aload hx hb dL_same_41 (lv_at hl 11 rfl) ?_
  refine lv_iconst (v := nI 3) hx hb dL_same_43 (by decide) ?_
  refine g_nald hx hb hE hP _ f_zq (by omega) (by decide) dL_same_44 ?_
  have bd_44_4 := b_zq (3)
  refine g_icmp_ne (tgt := 64) hx hb (by have := b_zq 3; omega) (by have := b_zq 3; omega) dL_same_45 (by decide) (fun c_45 => absurd c_45 (fun z => z hq.2.2.2.1.symm)) (fun c_45 => ?_)
  refine lv_aload_n hx hb dL_same_48 rfl (lv_at hl 0 rfl) ?_
  refine lv_iconst (v := nI 4) hx hb dL_same_49 (by decide) ?_
  refine gc_V_i (As := [.int (nI (4))]) (rest := []) (q4_count l hW hp ) ⟨hx, hb, hml, hown, hts⟩ (cwV 1 hts gL_same_X6_count rfl rfl rfl (by decide +kernel) ⟨Nat.le_of_ble_eq_true rfl, Nat.le_of_ble_eq_true rfl⟩) hE hP hD hS hA _ f_off rfl rfl rfl rfl hl.1 (Nat.le_of_ble_eq_true rfl) dL_same_50 ⟨Nat.le_of_ble_eq_true rfl, Nat.le_of_ble_eq_true rfl⟩ (fun r_50 u_50 H locs hP hD hS q_50 => ?_)
  obtain ⟨q9, hW⟩ := q_50
  subst q9
  obtain ⟨fs9, f_off⟩ := sw_off hW
  have f_zi := sw_zi hW
  have f_zc := sw_zc hW
  have f_zg := sw_zg hW
  have f_zf := sw_zf hW
  have f_zn := sw_zn hW
  have f_zl := sw_zl hW
  have f_zr := sw_zr hW
  have f_ze := sw_ze hW
  have f_zw := sw_zw hW
  have f_zq := sw_zq hW
  refine lv_aload hx hb dL_same_53 (lv_at hl 11 rfl) ?_
  refine lv_iconst (v := nI 4) hx hb dL_same_55 (by decide) ?_
  refine g_nald hx hb hE hP _ f_zq (by omega) (by decide) dL_same_56 ?_
  have bd_56_5 := b_zq (4)
  refine g_icmp_ne (tgt := 64) hx hb (by have := b_zq 4; omega) (by have := b_zq 4; omega) dL_same_57 (by decide) (fun c_57 => absurd c_57 (fun z => z hq.2.2.2.2.symm)) (fun c_57 => ?_)
  refine lv_iconst (v := nI 1) hx hb dL_same_60 (by decide) ?_
  refine lv_goto (tgt := 65) hx hb dL_same_61 (by decide) ?_
  refine lv_istore (lv' := [(12, .int (nI (1))), (0, .ref (ad 1)), (1, .int (yv)), (2, .ref (ad 30)), (3, .ref (ad 31)), (4, .ref (ad 32)), (5, .ref (ad 33)), (6, .ref (ad 34)), (7, .ref (ad 35)), (8, .ref (ad 36)), (9, .ref (ad 37)), (10, .ref (ad 40)), (11, .ref (ad 41))]) hx hb dL_same_65 hl (by decide) rfl (fun ls hl => ?_)
  refine lv_aload hx hb dL_same_67 (lv_at hl 12 rfl) ?_
  refine lv_iconst (v := nI 1) hx hb dL_same_69 (by decide) ?_
  refine g_nald hx hb hE hP _ f_zq (by omega) (by decide) dL_same_70 ?_
  have bd_70_6 := b_zq (1)
  refine g_if_eq (tgt := 79) hx hb (by omega) dL_same_71 (by decide) (fun c_71 => ?_) (fun c_71 => ?_)
  · refine lv_iload hx hb dL_same_79 (lv_at hl 0 rfl) ?_
    refine W.widen (k := 3) (n := 27) (Nat.le_of_ble_eq_true rfl) (Nat.le_of_ble_eq_true rfl) ?_
    refine g_zret (r := (gb (true))) hx hb hr hlocks u_50 dL_same_81 (gb_narrow _) hS hP hD ?_
    exact ⟨rfl, hW⟩
  · refine lv_iload hx hb dL_same_74 (lv_at hl 0 rfl) ?_
    refine g_if_ne (tgt := 82) hx hb (by omega) dL_same_76 (by decide) (fun c_76 => ?_) (fun c_76 => absurd c_76 (by decide))
    refine lv_iload_n hx hb dL_same_82 rfl (lv_at hl 2 rfl) ?_
    refine lv_aload hx hb dL_same_83 (lv_at hl 12 rfl) ?_
    refine lv_iconst (v := nI 1) hx hb dL_same_85 (by decide) ?_
    refine g_nald hx hb hE hP _ f_zq (by omega) (by decide) dL_same_86 ?_
    have bd_86_7 := b_zq (1)
    refine g_iv (v' := nI (nw)) (congrArg nI hq.2.1) ?_
    refine gc_S_i (As := [.int (yv), .int (nI (nw))]) (rest := []) (c_L_low l (by omega) (by omega)) ⟨hx, hb, hml, hown, hts⟩ (va_cwS 2 hts gL_same_L_low rfl rfl rfl (by decide +kernel) ⟨Nat.le_of_ble_eq_true rfl, Nat.le_of_ble_eq_true rfl⟩) hE hP hD hS hA rfl rfl hl.1 (Nat.le_of_ble_eq_true rfl) dL_same_87 ⟨Nat.le_of_ble_eq_true rfl, Nat.le_of_ble_eq_true rfl⟩ (fun r_87 u_87 H locs hP hD hS q_87 => ?_)
    obtain ⟨t, ht, e_t⟩ : ∃ z, z < nw ∧ lowN yv % nw = z := ⟨_, Nat.mod_lt _ (by omega), rfl⟩
    have q9 := q_87.trans (congrArg nI e_t)
    subst q9
    refine lv_istore (lv' := [(13, .int (nI (t))), (12, .int (nI (1))), (0, .ref (ad 1)), (1, .int (yv)), (2, .ref (ad 30)), (3, .ref (ad 31)), (4, .ref (ad 32)), (5, .ref (ad 33)), (6, .ref (ad 34)), (7, .ref (ad 35)), (8, .ref (ad 36)), (9, .ref (ad 37)), (10, .ref (ad 40)), (11, .ref (ad 41))]) hx hb dL_same_90 hl (by decide) rfl (fun ls hl => ?_)
    refine lv_iload_n hx hb dL_same_92 rfl (lv_at hl 3 rfl) ?_
    refine lv_iconst (v := nI 2) hx hb dL_same_93 (by decide) ?_
    refine g_ishr hx hb dL_same_94 rfl ?_
    refine lv_iconst (v := nI 5) hx hb dL_same_95 (by decide) ?_
    refine gc_S_i (As := [.int ((yv >>> (nI 2 &&& 31))), .int (nI (5))]) (rest := []) (c_L_low l (by decide) (by decide)) ⟨hx, hb, hml, hown, hts⟩ (va_cwS 2 hts gL_same_L_low rfl rfl rfl (by decide +kernel) ⟨Nat.le_of_ble_eq_true rfl, Nat.le_of_ble_eq_true rfl⟩) hE hP hD hS hA rfl rfl hl.1 (Nat.le_of_ble_eq_true rfl) dL_same_96 ⟨Nat.le_of_ble_eq_true rfl, Nat.le_of_ble_eq_true rfl⟩ (fun r_96 u_96 H locs hP hD hS q_96 => ?_)
    obtain ⟨kd, hkd, e_kd⟩ : ∃ z, z < 5 ∧ lowN (yv >>> (nI 2 &&& 31)) % 5 = z := ⟨_, Nat.mod_lt _ (by omega), rfl⟩
    have q9 := q_96.trans (congrArg nI e_kd)
    subst q9
    refine lv_istore (lv' := [(14, .int (nI (kd))), (13, .int (nI (t))), (12, .int (nI (1))), (0, .ref (ad 1)), (1, .int (yv)), (2, .ref (ad 30)), (3, .ref (ad 31)), (4, .ref (ad 32)), (5, .ref (ad 33)), (6, .ref (ad 34)), (7, .ref (ad 35)), (8, .ref (ad 36)), (9, .ref (ad 37)), (10, .ref (ad 40)), (11, .ref (ad 41))]) hx hb dL_same_99 hl (by decide) rfl (fun ls hl => ?_)
    refine lv_iload_n hx hb dL_same_101 rfl (lv_at hl 4 rfl) ?_
    refine lv_iconst (v := nI 3) hx hb dL_same_102 (by decide) ?_
    refine g_ishr hx hb dL_same_103 rfl ?_
    refine lv_iconst (v := nI 4) hx hb dL_same_104 (by decide) ?_
    refine gc_S_i (As := [.int ((yv >>> (nI 3 &&& 31))), .int (nI (4))]) (rest := []) (c_L_low l (by decide) (by decide)) ⟨hx, hb, hml, hown, hts⟩ (va_cwS 2 hts gL_same_L_low rfl rfl rfl (by decide +kernel) ⟨Nat.le_of_ble_eq_true rfl, Nat.le_of_ble_eq_true rfl⟩) hE hP hD hS hA rfl rfl hl.1 (Nat.le_of_ble_eq_true rfl) dL_same_105 ⟨Nat.le_of_ble_eq_true rfl, Nat.le_of_ble_eq_true rfl⟩ (fun r_105 u_105 H locs hP hD hS q_105 => ?_)
    obtain ⟨g, hg, e_g⟩ : ∃ z, z < 4 ∧ lowN (yv >>> (nI 3 &&& 31)) % 4 = z := ⟨_, Nat.mod_lt _ (by omega), rfl⟩
    have q9 := q_105.trans (congrArg nI e_g)
    subst q9
    refine lv_istore (lv' := [(15, .int (nI (g))), (14, .int (nI (kd))), (13, .int (nI (t))), (12, .int (nI (1))), (0, .ref (ad 1)), (1, .int (yv)), (2, .ref (ad 30)), (3, .ref (ad 31)), (4, .ref (ad 32)), (5, .ref (ad 33)), (6, .ref (ad 34)), (7, .ref (ad 35)), (8, .ref (ad 36)), (9, .ref (ad 37)), (10, .ref (ad 40)), (11, .ref (ad 41))]) hx hb dL_same_108 hl (by decide) rfl (fun ls hl => ?_)
    refine lv_aload_n hx hb dL_same_110 rfl (lv_at hl 4 rfl) ?_
    refine lv_iload hx hb dL_same_111 (lv_at hl 1 rfl) ?_
    refine lv_iload hx hb dL_same_113 (lv_at hl 2 rfl) ?_
    refine gc_V_d (As := [.int (nI (kd)), .int (nI (t))]) (rest := []) (q_index l hW hp hkd ht) ⟨hx, hb, hml, hown, hts⟩ (cwV 2 hts gL_same_X6_index rfl rfl rfl (by decide +kernel) ⟨Nat.le_of_ble_eq_true rfl, Nat.le_of_ble_eq_true rfl⟩) hE hP hD hS hA _ f_off rfl rfl rfl rfl hl.1 (Nat.le_of_ble_eq_true rfl) dL_same_115 ⟨Nat.le_of_ble_eq_true rfl, Nat.le_of_ble_eq_true rfl⟩ (fun r_115 u_115 H locs hP hD hS q_115 => ?_)
    obtain ⟨q9, hW⟩ := q_115
    subst q9
    obtain ⟨fs9, f_off⟩ := sw_off hW
    have f_zi := sw_zi hW
    have f_zc := sw_zc hW
    have f_zg := sw_zg hW
    have f_zf := sw_zf hW
    have f_zn := sw_zn hW
    have f_zl := sw_zl hW
    have f_zr := sw_zr hW
    have f_ze := sw_ze hW
    have f_zw := sw_zw hW
    have f_zq := sw_zq hW
    refine lv_iload hx hb dL_same_118 (lv_at hl 1 rfl) ?_
    refine lv_iload hx hb dL_same_120 (lv_at hl 2 rfl) ?_
    refine lv_iconst (v := nI 0) hx hb dL_same_122 (by decide) ?_
    refine lv_aload_n hx hb dL_same_123 rfl (lv_at hl 6 rfl) ?_
    refine lv_aload_n hx hb dL_same_124 rfl (lv_at hl 7 rfl) ?_
    refine lv_aload hx hb dL_same_125 (lv_at hl 8 rfl) ?_
    refine lv_aload hx hb dL_same_127 (lv_at hl 9 rfl) ?_
    refine lv_aload hx hb dL_same_129 (lv_at hl 10 rfl) ?_
    refine lv_aload hx hb dL_same_131 (lv_at hl 11 rfl) ?_
    refine lv_aload hx hb dL_same_133 (lv_at hl 12 rfl) ?_
    refine lv_aload hx hb dL_same_135 (lv_at hl 13 rfl) ?_
    refine lv_aload hx hb dL_same_137 (lv_at hl 15 rfl) ?_
    refine gc_S_d (As := [.int (nI (kd)), .int (nI (t)), .int (gb (false)), .ref (ad 30), .ref (ad 31), .ref (ad 32), .ref (ad 33), .ref (ad 34), .ref (ad 35), .ref (ad 36), .ref (ad 37), .ref (ad 41)]) (rest := [.double (idx (t * 5 + kd))]) (c_L_index l f_zi f_zc f_zg f_zf f_zn f_zl f_zr f_ze f_zq b_zi b_zc b_zg b_zf b_zn b_zl b_zr b_ze b_zq (n := n) (T := nw) (MM := M) (G := G) (M := (rK cf cents grams lc lg pr)) (o := (sRate cents grams)) (b := (sBase lc lg pr)) (pr := pr) (rel := rel) (grp := grp) (shr := shr) (idx := idx) hkd ht hLF) ⟨hx, hb, hml, hown, hts⟩ (va_cwS 12 hts gL_same_L_index rfl rfl rfl (by decide +kernel) ⟨Nat.le_of_ble_eq_true rfl, Nat.le_of_ble_eq_true rfl⟩) hE hP hD hS hA rfl rfl hl.1 (Nat.le_of_ble_eq_true rfl) dL_same_139 ⟨Nat.le_of_ble_eq_true rfl, Nat.le_of_ble_eq_true rfl⟩ (fun r_139 u_139 H locs hP hD hS q_139 => ?_)
    subst q_139
    refine g_dcmpl_ne (tgt := 296) hx hb dL_same_142 dL_same_143 (by decide) (fun c_142 => absurd c_142 (fun z => z (Deq_NF ((hB t ht).2.2.2.1 kd hkd).1))) (fun c_142 => ?_)
    refine lv_aload_n hx hb dL_same_146 rfl (lv_at hl 4 rfl) ?_
    refine lv_iload hx hb dL_same_147 (lv_at hl 1 rfl) ?_
    refine lv_iload hx hb dL_same_149 (lv_at hl 2 rfl) ?_
    refine gc_V_d (As := [.int (nI (kd)), .int (nI (t))]) (rest := []) (q_indexAnew l hW hp hkd ht) ⟨hx, hb, hml, hown, hts⟩ (cwV 2 hts gL_same_X6_indexAnew rfl rfl rfl (by decide +kernel) ⟨Nat.le_of_ble_eq_true rfl, Nat.le_of_ble_eq_true rfl⟩) hE hP hD hS hA _ f_off rfl rfl rfl rfl hl.1 (Nat.le_of_ble_eq_true rfl) dL_same_151 ⟨Nat.le_of_ble_eq_true rfl, Nat.le_of_ble_eq_true rfl⟩ (fun r_151 u_151 H locs hP hD hS q_151 => ?_)
    obtain ⟨q9, hW⟩ := q_151
    subst q9
    obtain ⟨fs9, f_off⟩ := sw_off hW
    have f_zi := sw_zi hW
    have f_zc := sw_zc hW
    have f_zg := sw_zg hW
    have f_zf := sw_zf hW
    have f_zn := sw_zn hW
    have f_zl := sw_zl hW
    have f_zr := sw_zr hW
    have f_ze := sw_ze hW
    have f_zw := sw_zw hW
    have f_zq := sw_zq hW
    refine lv_aload_n hx hb dL_same_154 rfl (lv_at hl 4 rfl) ?_
    refine lv_iload hx hb dL_same_155 (lv_at hl 1 rfl) ?_
    refine lv_iload hx hb dL_same_157 (lv_at hl 2 rfl) ?_
    refine gc_V_d (As := [.int (nI (kd)), .int (nI (t))]) (rest := [.double (idx (t * 5 + kd))]) (q_index l hW hp hkd ht) ⟨hx, hb, hml, hown, hts⟩ (cwV 2 hts gL_same_X6_index rfl rfl rfl (by decide +kernel) ⟨Nat.le_of_ble_eq_true rfl, Nat.le_of_ble_eq_true rfl⟩) hE hP hD hS hA _ f_off rfl rfl rfl rfl hl.1 (Nat.le_of_ble_eq_true rfl) dL_same_159 ⟨Nat.le_of_ble_eq_true rfl, Nat.le_of_ble_eq_true rfl⟩ (fun r_159 u_159 H locs hP hD hS q_159 => ?_)
    obtain ⟨q9, hW⟩ := q_159
    subst q9
    obtain ⟨fs9, f_off⟩ := sw_off hW
    have f_zi := sw_zi hW
    have f_zc := sw_zc hW
    have f_zg := sw_zg hW
    have f_zf := sw_zf hW
    have f_zn := sw_zn hW
    have f_zl := sw_zl hW
    have f_zr := sw_zr hW
    have f_ze := sw_ze hW
    have f_zw := sw_zw hW
    have f_zq := sw_zq hW
    refine g_dcmpl_ne (tgt := 296) hx hb dL_same_162 dL_same_163 (by decide) (fun c_162 => absurd c_162 (fun z => z (Deq_NF ((hB t ht).2.2.2.1 kd hkd).1))) (fun c_162 => ?_)
    refine lv_aload_n hx hb dL_same_166 rfl (lv_at hl 4 rfl) ?_
    refine lv_iload hx hb dL_same_167 (lv_at hl 1 rfl) ?_
    refine lv_iload hx hb dL_same_169 (lv_at hl 2 rfl) ?_
    refine gc_V_d (As := [.int (nI (kd)), .int (nI (t))]) (rest := []) (q_corrected l hW hp hkd ht hsT) ⟨hx, hb, hml, hown, hts⟩ (cwV 2 hts gL_same_X6_corrected rfl rfl rfl (by decide +kernel) ⟨Nat.le_of_ble_eq_true rfl, Nat.le_of_ble_eq_true rfl⟩) hE hP hD hS hA _ f_off rfl rfl rfl rfl hl.1 (Nat.le_of_ble_eq_true rfl) dL_same_171 ⟨Nat.le_of_ble_eq_true rfl, Nat.le_of_ble_eq_true rfl⟩ (fun r_171 u_171 H locs hP hD hS q_171 => ?_)
    obtain ⟨q9, hW⟩ := q_171
    subst q9
    obtain ⟨fs9, f_off⟩ := sw_off hW
    have f_zi := sw_zi hW
    have f_zc := sw_zc hW
    have f_zg := sw_zg hW
    have f_zf := sw_zf hW
    have f_zn := sw_zn hW
    have f_zl := sw_zl hW
    have f_zr := sw_zr hW
    have f_ze := sw_ze hW
    have f_zw := sw_zw hW
    have f_zq := sw_zq hW
    refine lv_iload hx hb dL_same_174 (lv_at hl 1 rfl) ?_
    refine lv_iload hx hb dL_same_176 (lv_at hl 2 rfl) ?_
    refine lv_iconst (v := nI 1) hx hb dL_same_178 (by decide) ?_
    refine lv_aload_n hx hb dL_same_179 rfl (lv_at hl 6 rfl) ?_
    refine lv_aload_n hx hb dL_same_180 rfl (lv_at hl 7 rfl) ?_
    refine lv_aload hx hb dL_same_181 (lv_at hl 8 rfl) ?_
    refine lv_aload hx hb dL_same_183 (lv_at hl 9 rfl) ?_
    refine lv_aload hx hb dL_same_185 (lv_at hl 10 rfl) ?_
    refine lv_aload hx hb dL_same_187 (lv_at hl 11 rfl) ?_
    refine lv_aload hx hb dL_same_189 (lv_at hl 12 rfl) ?_
    refine lv_aload hx hb dL_same_191 (lv_at hl 13 rfl) ?_
    refine lv_aload hx hb dL_same_193 (lv_at hl 15 rfl) ?_
    refine gc_S_d (As := [.int (nI (kd)), .int (nI (t)), .int (gb (true)), .ref (ad 30), .ref (ad 31), .ref (ad 32), .ref (ad 33), .ref (ad 34), .ref (ad 35), .ref (ad 36), .ref (ad 37), .ref (ad 41)]) (rest := [.double (idxT (t * 5 + kd))]) (c_L_index l f_zi f_zc f_zg f_zf f_zn f_zl f_zr f_ze f_zq b_zi b_zc b_zg b_zf b_zn b_zl b_zr b_ze b_zq (n := n) (T := nw) (MM := M) (G := G) (M := rK cf cc grams lc lg prT) (o := sRate cc grams) (b := sBase lc lg prT) (pr := prT) (rel := relT) (grp := grpT) (shr := shr) (idx := idxT) hkd ht hLT) ⟨hx, hb, hml, hown, hts⟩ (va_cwS 12 hts gL_same_L_index rfl rfl rfl (by decide +kernel) ⟨Nat.le_of_ble_eq_true rfl, Nat.le_of_ble_eq_true rfl⟩) hE hP hD hS hA rfl rfl hl.1 (Nat.le_of_ble_eq_true rfl) dL_same_195 ⟨Nat.le_of_ble_eq_true rfl, Nat.le_of_ble_eq_true rfl⟩ (fun r_195 u_195 H locs hP hD hS q_195 => ?_)
    subst q_195
    refine g_dcmpl_ne (tgt := 296) hx hb dL_same_198 dL_same_199 (by decide) (fun c_198 => absurd c_198 (fun z => z (Deq_NF ((hBT t ht).2.2.2.1 kd hkd).1))) (fun c_198 => ?_)
    refine lv_aload_n hx hb dL_same_202 rfl (lv_at hl 4 rfl) ?_
    refine lv_iload hx hb dL_same_203 (lv_at hl 2 rfl) ?_
    refine gc_V_i (As := [.int (nI (t))]) (rest := []) (q_published l hW hp ht) ⟨hx, hb, hml, hown, hts⟩ (cwV 1 hts gL_same_X6_published rfl rfl rfl (by decide +kernel) ⟨Nat.le_of_ble_eq_true rfl, Nat.le_of_ble_eq_true rfl⟩) hE hP hD hS hA _ f_off rfl rfl rfl rfl hl.1 (Nat.le_of_ble_eq_true rfl) dL_same_205 ⟨Nat.le_of_ble_eq_true rfl, Nat.le_of_ble_eq_true rfl⟩ (fun r_205 u_205 H locs hP hD hS q_205 => ?_)
    obtain ⟨q9, hW⟩ := q_205
    subst q9
    obtain ⟨fs9, f_off⟩ := sw_off hW
    have f_zi := sw_zi hW
    have f_zc := sw_zc hW
    have f_zg := sw_zg hW
    have f_zf := sw_zf hW
    have f_zn := sw_zn hW
    have f_zl := sw_zl hW
    have f_zr := sw_zr hW
    have f_ze := sw_ze hW
    have f_zw := sw_zw hW
    have f_zq := sw_zq hW
    refine lv_iload hx hb dL_same_208 (lv_at hl 2 rfl) ?_
    refine lv_iconst (v := nI 0) hx hb dL_same_210 (by decide) ?_
    refine lv_aload_n hx hb dL_same_211 rfl (lv_at hl 6 rfl) ?_
    refine lv_aload_n hx hb dL_same_212 rfl (lv_at hl 7 rfl) ?_
    refine lv_aload hx hb dL_same_213 (lv_at hl 8 rfl) ?_
    refine lv_aload hx hb dL_same_215 (lv_at hl 9 rfl) ?_
    refine lv_aload hx hb dL_same_217 (lv_at hl 10 rfl) ?_
    refine lv_aload hx hb dL_same_219 (lv_at hl 11 rfl) ?_
    refine lv_aload hx hb dL_same_221 (lv_at hl 12 rfl) ?_
    refine lv_aload hx hb dL_same_223 (lv_at hl 13 rfl) ?_
    refine lv_aload hx hb dL_same_225 (lv_at hl 15 rfl) ?_
    refine gc_S_i (As := [.int (nI (t)), .int (gb (false)), .ref (ad 30), .ref (ad 31), .ref (ad 32), .ref (ad 33), .ref (ad 34), .ref (ad 35), .ref (ad 36), .ref (ad 37), .ref (ad 41)]) (rest := [.int (nI (num t))]) (c_L_number l f_zi f_zc f_zg f_zf f_zn f_zl f_zr f_ze f_zq b_zi b_zc b_zg b_zf b_zn b_zl b_zr b_ze b_zq (n := n) (T := nw) (MM := M) (G := G) (M := (rK cf cents grams lc lg pr)) (o := (sRate cents grams)) (b := (sBase lc lg pr)) (pr := pr) (rel := rel) (grp := grp) (shr := shr) (idx := idx) ht hLF) ⟨hx, hb, hml, hown, hts⟩ (va_cwS 11 hts gL_same_L_number rfl rfl rfl (by decide +kernel) ⟨Nat.le_of_ble_eq_true rfl, Nat.le_of_ble_eq_true rfl⟩) hE hP hD hS hA rfl rfl hl.1 (Nat.le_of_ble_eq_true rfl) dL_same_227 ⟨Nat.le_of_ble_eq_true rfl, Nat.le_of_ble_eq_true rfl⟩ (fun r_227 u_227 H locs hP hD hS q_227 => ?_)
    subst q_227
    refine g_icmp_ne (tgt := 296) hx hb (by have := bta.2.2 t; omega) (by have := sNumN_le (idx (t * 5 + 0)); omega) dL_same_230 (by decide) (fun c_230 => absurd c_230 (fun z => z (hnum t ht))) (fun c_230 => ?_)
    refine lv_aload_n hx hb dL_same_233 rfl (lv_at hl 4 rfl) ?_
    refine lv_iload hx hb dL_same_234 (lv_at hl 1 rfl) ?_
    refine lv_iload hx hb dL_same_236 (lv_at hl 0 rfl) ?_
    refine lv_iload hx hb dL_same_238 (lv_at hl 2 rfl) ?_
    refine gc_V_d (As := [.int (nI (kd)), .int (nI (g)), .int (nI (t))]) (rest := []) (q_share l hW hp hkd hg ht) ⟨hx, hb, hml, hown, hts⟩ (cwV 3 hts gL_same_X6_share rfl rfl rfl (by decide +kernel) ⟨Nat.le_of_ble_eq_true rfl, Nat.le_of_ble_eq_true rfl⟩) hE hP hD hS hA _ f_off rfl rfl rfl rfl hl.1 (Nat.le_of_ble_eq_true rfl) dL_same_240 ⟨Nat.le_of_ble_eq_true rfl, Nat.le_of_ble_eq_true rfl⟩ (fun r_240 u_240 H locs hP hD hS q_240 => ?_)
    obtain ⟨q9, hW⟩ := q_240
    subst q9
    obtain ⟨fs9, f_off⟩ := sw_off hW
    have f_zi := sw_zi hW
    have f_zc := sw_zc hW
    have f_zg := sw_zg hW
    have f_zf := sw_zf hW
    have f_zn := sw_zn hW
    have f_zl := sw_zl hW
    have f_zr := sw_zr hW
    have f_ze := sw_ze hW
    have f_zw := sw_zw hW
    have f_zq := sw_zq hW
    refine lv_iload hx hb dL_same_243 (lv_at hl 1 rfl) ?_
    refine lv_iload hx hb dL_same_245 (lv_at hl 0 rfl) ?_
    refine lv_iload hx hb dL_same_247 (lv_at hl 2 rfl) ?_
    refine lv_aload hx hb dL_same_249 (lv_at hl 13 rfl) ?_
    refine gc_S_d (As := [.int (nI (kd)), .int (nI (g)), .int (nI (t)), .ref (ad 37)]) (rest := [.double (shr ((t * 5 + kd) * 4 + g))]) (c_L_share l f_ze b_ze hkd hg (by omega) (l5 t ht kd hkd g hg).1) ⟨hx, hb, hml, hown, hts⟩ (va_cwS 4 hts gL_same_L_share rfl rfl rfl (by decide +kernel) ⟨Nat.le_of_ble_eq_true rfl, Nat.le_of_ble_eq_true rfl⟩) hE hP hD hS hA rfl rfl hl.1 (Nat.le_of_ble_eq_true rfl) dL_same_251 ⟨Nat.le_of_ble_eq_true rfl, Nat.le_of_ble_eq_true rfl⟩ (fun r_251 u_251 H locs hP hD hS q_251 => ?_)
    have q9 := q_251.trans (l5 t ht kd hkd g hg).2
    subst q9
    refine g_dcmpl_ne (tgt := 296) hx hb dL_same_254 dL_same_255 (by decide) (fun c_254 => absurd c_254 (fun z => z (Deq_NF ((hS9 t ht).1 kd hkd g hg).1))) (fun c_254 => ?_)
    refine lv_aload_n hx hb dL_same_258 rfl (lv_at hl 4 rfl) ?_
    refine lv_iload hx hb dL_same_259 (lv_at hl 0 rfl) ?_
    refine lv_iload hx hb dL_same_261 (lv_at hl 2 rfl) ?_
    refine gc_V_d (As := [.int (nI (g)), .int (nI (t))]) (rest := []) (q_ofGroup l hW hp hg ht) ⟨hx, hb, hml, hown, hts⟩ (cwV 2 hts gL_same_X6_ofGroup rfl rfl rfl (by decide +kernel) ⟨Nat.le_of_ble_eq_true rfl, Nat.le_of_ble_eq_true rfl⟩) hE hP hD hS hA _ f_off rfl rfl rfl rfl hl.1 (Nat.le_of_ble_eq_true rfl) dL_same_263 ⟨Nat.le_of_ble_eq_true rfl, Nat.le_of_ble_eq_true rfl⟩ (fun r_263 u_263 H locs hP hD hS q_263 => ?_)
    obtain ⟨q9, hW⟩ := q_263
    subst q9
    obtain ⟨fs9, f_off⟩ := sw_off hW
    have f_zi := sw_zi hW
    have f_zc := sw_zc hW
    have f_zg := sw_zg hW
    have f_zf := sw_zf hW
    have f_zn := sw_zn hW
    have f_zl := sw_zl hW
    have f_zr := sw_zr hW
    have f_ze := sw_ze hW
    have f_zw := sw_zw hW
    have f_zq := sw_zq hW
    refine lv_iload hx hb dL_same_266 (lv_at hl 0 rfl) ?_
    refine lv_iload hx hb dL_same_268 (lv_at hl 2 rfl) ?_
    refine lv_iconst (v := nI 0) hx hb dL_same_270 (by decide) ?_
    refine lv_aload_n hx hb dL_same_271 rfl (lv_at hl 6 rfl) ?_
    refine lv_aload_n hx hb dL_same_272 rfl (lv_at hl 7 rfl) ?_
    refine lv_aload hx hb dL_same_273 (lv_at hl 8 rfl) ?_
    refine lv_aload hx hb dL_same_275 (lv_at hl 9 rfl) ?_
    refine lv_aload hx hb dL_same_277 (lv_at hl 10 rfl) ?_
    refine lv_aload hx hb dL_same_279 (lv_at hl 11 rfl) ?_
    refine lv_aload hx hb dL_same_281 (lv_at hl 12 rfl) ?_
    refine lv_aload hx hb dL_same_283 (lv_at hl 15 rfl) ?_
    refine gc_S_d (As := [.int (nI (g)), .int (nI (t)), .int (gb (false)), .ref (ad 30), .ref (ad 31), .ref (ad 32), .ref (ad 33), .ref (ad 34), .ref (ad 35), .ref (ad 36), .ref (ad 41)]) (rest := [.double (grp (t * 4 + g))]) (c_L_group l f_zi f_zc f_zg f_zf f_zn f_zl f_zr f_zq b_zi b_zc b_zg b_zf b_zn b_zl b_zr b_zq (n := n) (T := nw) (MM := M) (G := G) (M := (rK cf cents grams lc lg pr)) (o := (sRate cents grams)) (b := (sBase lc lg pr)) (pr := pr) (rel := rel) hg ht l1.2.2 l1.1 l1.2.1 (fun k9 hk9 => ⟨(l2 k9 hk9).1, (l2 k9 hk9).2.1, (l2 k9 hk9).2.2, (l3 k9 hk9 t ht).2⟩) (fun k9 hk9 t9 ht9 => (l3 k9 hk9 t9 ht9).1) (l4 t ht g hg).1) ⟨hx, hb, hml, hown, hts⟩ (va_cwS 11 hts gL_same_L_group rfl rfl rfl (by decide +kernel) ⟨Nat.le_of_ble_eq_true rfl, Nat.le_of_ble_eq_true rfl⟩) hE hP hD hS hA rfl rfl hl.1 (Nat.le_of_ble_eq_true rfl) dL_same_285 ⟨Nat.le_of_ble_eq_true rfl, Nat.le_of_ble_eq_true rfl⟩ (fun r_285 u_285 H locs hP hD hS q_285 => ?_)
    have q9 := q_285.trans (l4 t ht g hg).2
    subst q9
    refine g_dcmpl_ne (tgt := 296) hx hb dL_same_288 dL_same_289 (by decide) (fun c_288 => absurd c_288 (fun z => z (Deq_NF ((hB t ht).2.2.1 g hg).1))) (fun c_288 => ?_)
    refine lv_iconst (v := nI 1) hx hb dL_same_292 (by decide) ?_
    refine lv_goto (tgt := 297) hx hb dL_same_293 (by decide) ?_
    refine lv_istore (lv' := [(12, .int (nI (1))), (15, .int (nI (g))), (14, .int (nI (kd))), (13, .int (nI (t))), (0, .ref (ad 1)), (1, .int (yv)), (2, .ref (ad 30)), (3, .ref (ad 31)), (4, .ref (ad 32)), (5, .ref (ad 33)), (6, .ref (ad 34)), (7, .ref (ad 35)), (8, .ref (ad 36)), (9, .ref (ad 37)), (10, .ref (ad 40)), (11, .ref (ad 41))]) hx hb dL_same_297 hl (by decide) rfl (fun ls hl => ?_)
    have hdir := direct_all (shr := shr) (gr := grp) (t := t) (by omega) ((hS9 t ht).1 0 (by decide)) (fun m hm j hj => (hB m (by omega)).2.2.1 j hj)
    have hg4 := (hB t ht).2.2.1
    have hcore := core_all hg4
    refine g_dconst0 hx hb dL_same_299 ?_
    refine lv_dstore (lv' := [(16, .double 0), (12, .int (nI (1))), (15, .int (nI (g))), (14, .int (nI (kd))), (13, .int (nI (t))), (0, .ref (ad 1)), (1, .int (yv)), (2, .ref (ad 30)), (3, .ref (ad 31)), (4, .ref (ad 32)), (5, .ref (ad 33)), (6, .ref (ad 34)), (7, .ref (ad 35)), (8, .ref (ad 36)), (9, .ref (ad 37)), (10, .ref (ad 40)), (11, .ref (ad 41))]) hx hb dL_same_300 hl (by decide) rfl (fun ls hl => ?_)
    refine g_dconst0 hx hb dL_same_302 ?_
    refine lv_dstore (lv' := [(18, .double 0), (16, .double 0), (12, .int (nI (1))), (15, .int (nI (g))), (14, .int (nI (kd))), (13, .int (nI (t))), (0, .ref (ad 1)), (1, .int (yv)), (2, .ref (ad 30)), (3, .ref (ad 31)), (4, .ref (ad 32)), (5, .ref (ad 33)), (6, .ref (ad 34)), (7, .ref (ad 35)), (8, .ref (ad 36)), (9, .ref (ad 37)), (10, .ref (ad 40)), (11, .ref (ad 41))]) hx hb dL_same_303 hl (by decide) rfl (fun ls hl => ?_)
    refine lv_ldc2d (v := 9094988921128908188) hx hb hown (hts (.constantDouble RL 129 (9094988921128908188)) (by decide +kernel)) dL_same_305 ?_
    refine lv_dstore (lv' := [(20, .double 9094988921128908188), (18, .double 0), (16, .double 0), (12, .int (nI (1))), (15, .int (nI (g))), (14, .int (nI (kd))), (13, .int (nI (t))), (0, .ref (ad 1)), (1, .int (yv)), (2, .ref (ad 30)), (3, .ref (ad 31)), (4, .ref (ad 32)), (5, .ref (ad 33)), (6, .ref (ad 34)), (7, .ref (ad 35)), (8, .ref (ad 36)), (9, .ref (ad 37)), (10, .ref (ad 40)), (11, .ref (ad 41))]) hx hb dL_same_308 hl (by decide) rfl (fun ls hl => ?_)
    refine lv_iconst (v := nI 0) hx hb dL_same_310 (by decide) ?_
    refine lv_istore (lv' := [(22, .int (nI (0))), (20, .double 9094988921128908188), (18, .double 0), (16, .double 0), (12, .int (nI (1))), (15, .int (nI (g))), (14, .int (nI (kd))), (13, .int (nI (t))), (0, .ref (ad 1)), (1, .int (yv)), (2, .ref (ad 30)), (3, .ref (ad 31)), (4, .ref (ad 32)), (5, .ref (ad 33)), (6, .ref (ad 34)), (7, .ref (ad 35)), (8, .ref (ad 36)), (9, .ref (ad 37)), (10, .ref (ad 40)), (11, .ref (ad 41))]) hx hb dL_same_311 hl (by decide) rfl (fun ls hl => ?_)
    have hP : gvP D vwCl u_263 _ := g_trP (rfl) hP
    have hD : gvD A u_263 := g_trD (rfl) hD
    refine g_for (fun k => u_263) (fun k => [(0, .ref (ad 1)), (1, .int (yv)), (2, .ref (ad 30)), (3, .ref (ad 31)), (4, .ref (ad 32)), (5, .ref (ad 33)), (6, .ref (ad 34)), (7, .ref (ad 35)), (8, .ref (ad 36)), (9, .ref (ad 37)), (10, .ref (ad 40)), (11, .ref (ad 41)), (12, .int (nI (1))), (13, .int (nI (t))), (14, .int (nI (kd))), (15, .int (nI (g))), (16, .double (drF shr grp t (k))), (18, .double (mxF grp t (k))), (20, .double (mnF grp t (k))), (22, .int (nI (k)))]) (4) (0) (by omega) ?_ ?_ hP hD hS (lv_sub hl [8, 9, 10, 11, 12, 13, 14, 15, 16, 17, 18, 19, 4, 7, 6, 5, 3, 2, 1, 0] rfl)
    · intro H locs ls hP hD hS hl
      have hP : gvP D vwCl u_263 H := hP
      have hD : gvD A u_263 := hD
      have hl : lv_has ls 31 [(0, .ref (ad 1)), (1, .int (yv)), (2, .ref (ad 30)), (3, .ref (ad 31)), (4, .ref (ad 32)), (5, .ref (ad 33)), (6, .ref (ad 34)), (7, .ref (ad 35)), (8, .ref (ad 36)), (9, .ref (ad 37)), (10, .ref (ad 40)), (11, .ref (ad 41)), (12, .int (nI (1))), (13, .int (nI (t))), (14, .int (nI (kd))), (15, .int (nI (g))), (16, .double (drF shr grp t (4))), (18, .double (mxF grp t (4))), (20, .double (mnF grp t (4))), (22, .int (nI (4)))] := hl
      refine lv_iload hx hb dL_same_313 (lv_at hl 19 rfl) ?_
      refine lv_iconst (v := nI 4) hx hb dL_same_315 (by decide) ?_
      refine g_icmp_ge (tgt := 447) hx hb (by omega) (by omega) dL_same_316 (by decide) (fun c_316 => ?_) (fun c_316 => absurd c_316 (by omega))
      refine g_dconst0 hx hb dL_same_447 ?_
      refine lv_dstore (lv' := [(22, .double 0), (0, .ref (ad 1)), (1, .int (yv)), (2, .ref (ad 30)), (3, .ref (ad 31)), (4, .ref (ad 32)), (5, .ref (ad 33)), (6, .ref (ad 34)), (7, .ref (ad 35)), (8, .ref (ad 36)), (9, .ref (ad 37)), (10, .ref (ad 40)), (11, .ref (ad 41)), (12, .int (nI (1))), (13, .int (nI (t))), (14, .int (nI (kd))), (15, .int (nI (g))), (16, .double (drF shr grp t (4))), (18, .double (mxF grp t (4))), (20, .double (mnF grp t (4)))]) hx hb dL_same_448 hl (by decide) rfl (fun ls hl => ?_)
      refine lv_iconst (v := nI 0) hx hb dL_same_450 (by decide) ?_
      refine lv_istore (lv' := [(24, .int (nI (0))), (22, .double 0), (0, .ref (ad 1)), (1, .int (yv)), (2, .ref (ad 30)), (3, .ref (ad 31)), (4, .ref (ad 32)), (5, .ref (ad 33)), (6, .ref (ad 34)), (7, .ref (ad 35)), (8, .ref (ad 36)), (9, .ref (ad 37)), (10, .ref (ad 40)), (11, .ref (ad 41)), (12, .int (nI (1))), (13, .int (nI (t))), (14, .int (nI (kd))), (15, .int (nI (g))), (16, .double (drF shr grp t (4))), (18, .double (mxF grp t (4))), (20, .double (mnF grp t (4)))]) hx hb dL_same_451 hl (by decide) rfl (fun ls hl => ?_)
      refine lv_iconst (v := nI 0) hx hb dL_same_453 (by decide) ?_
      refine lv_istore (lv' := [(25, .int (nI (0))), (24, .int (nI (0))), (22, .double 0), (0, .ref (ad 1)), (1, .int (yv)), (2, .ref (ad 30)), (3, .ref (ad 31)), (4, .ref (ad 32)), (5, .ref (ad 33)), (6, .ref (ad 34)), (7, .ref (ad 35)), (8, .ref (ad 36)), (9, .ref (ad 37)), (10, .ref (ad 40)), (11, .ref (ad 41)), (12, .int (nI (1))), (13, .int (nI (t))), (14, .int (nI (kd))), (15, .int (nI (g))), (16, .double (drF shr grp t (4))), (18, .double (mxF grp t (4))), (20, .double (mnF grp t (4)))]) hx hb dL_same_454 hl (by decide) rfl (fun ls hl => ?_)
      refine lv_iconst (v := nI 0) hx hb dL_same_456 (by decide) ?_
      refine lv_istore (lv' := [(26, .int (nI (0))), (25, .int (nI (0))), (24, .int (nI (0))), (22, .double 0), (0, .ref (ad 1)), (1, .int (yv)), (2, .ref (ad 30)), (3, .ref (ad 31)), (4, .ref (ad 32)), (5, .ref (ad 33)), (6, .ref (ad 34)), (7, .ref (ad 35)), (8, .ref (ad 36)), (9, .ref (ad 37)), (10, .ref (ad 40)), (11, .ref (ad 41)), (12, .int (nI (1))), (13, .int (nI (t))), (14, .int (nI (kd))), (15, .int (nI (g))), (16, .double (drF shr grp t (4))), (18, .double (mxF grp t (4))), (20, .double (mnF grp t (4)))]) hx hb dL_same_457 hl (by decide) rfl (fun ls hl => ?_)
      have hP : gvP D vwCl u_263 _ := g_trP (rfl) hP
      have hD : gvD A u_263 := g_trD (rfl) hD
      refine g_for (fun k => u_263) (fun k => [(0, .ref (ad 1)), (1, .int (yv)), (2, .ref (ad 30)), (3, .ref (ad 31)), (4, .ref (ad 32)), (5, .ref (ad 33)), (6, .ref (ad 34)), (7, .ref (ad 35)), (8, .ref (ad 36)), (9, .ref (ad 37)), (10, .ref (ad 40)), (11, .ref (ad 41)), (12, .int (nI (1))), (13, .int (nI (t))), (14, .int (nI (kd))), (15, .int (nI (g))), (16, .double (drF shr grp t (4))), (18, .double (mxF grp t (4))), (20, .double (mnF grp t (4))), (22, .double ((coF grp t (mxF grp t 4) (mnF grp t 4) (k)).2.2)), (24, .int (gb ((coF grp t (mxF grp t 4) (mnF grp t 4) (k)).1))), (25, .int (gb ((coF grp t (mxF grp t 4) (mnF grp t 4) (k)).2.1))), (26, .int (nI (k)))]) (4) (0) (by omega) ?_ ?_ hP hD hS (lv_sub hl [4, 5, 6, 7, 8, 9, 10, 11, 12, 13, 14, 15, 16, 17, 18, 19, 20, 21, 22, 3, 2, 1, 0] rfl)
      · intro H locs ls hP hD hS hl
        have hP : gvP D vwCl u_263 H := hP
        have hD : gvD A u_263 := hD
        have hl : lv_has ls 31 [(0, .ref (ad 1)), (1, .int (yv)), (2, .ref (ad 30)), (3, .ref (ad 31)), (4, .ref (ad 32)), (5, .ref (ad 33)), (6, .ref (ad 34)), (7, .ref (ad 35)), (8, .ref (ad 36)), (9, .ref (ad 37)), (10, .ref (ad 40)), (11, .ref (ad 41)), (12, .int (nI (1))), (13, .int (nI (t))), (14, .int (nI (kd))), (15, .int (nI (g))), (16, .double (drF shr grp t (4))), (18, .double (mxF grp t (4))), (20, .double (mnF grp t (4))), (22, .double ((coF grp t (mxF grp t 4) (mnF grp t 4) (4)).2.2)), (24, .int (gb ((coF grp t (mxF grp t 4) (mnF grp t 4) (4)).1))), (25, .int (gb ((coF grp t (mxF grp t 4) (mnF grp t 4) (4)).2.1))), (26, .int (nI (4)))] := hl
        refine lv_iload hx hb dL_same_459 (lv_at hl 22 rfl) ?_
        refine lv_iconst (v := nI 4) hx hb dL_same_461 (by decide) ?_
        refine g_icmp_ge (tgt := 596) hx hb (by omega) (by omega) dL_same_462 (by decide) (fun c_462 => ?_) (fun c_462 => absurd c_462 (by omega))
        refine lv_iload hx hb dL_same_596 (lv_at hl 12 rfl) ?_
        refine g_if_eq (tgt := 637) hx hb (by omega) dL_same_598 (by decide) (fun c_598 => absurd c_598 (by decide)) (fun c_598 => ?_)
        refine lv_aload_n hx hb dL_same_601 rfl (lv_at hl 0 rfl) ?_
        refine lv_iload hx hb dL_same_602 (lv_at hl 13 rfl) ?_
        refine gc_V_d (As := [.int (nI (t))]) (rest := []) (q_direct l hW hp ht) ⟨hx, hb, hml, hown, hts⟩ (cwV 1 hts gL_same_X6_direct rfl rfl rfl (by decide +kernel) ⟨Nat.le_of_ble_eq_true rfl, Nat.le_of_ble_eq_true rfl⟩) hE hP hD hS hA _ f_off rfl rfl rfl rfl hl.1 (Nat.le_of_ble_eq_true rfl) dL_same_604 ⟨Nat.le_of_ble_eq_true rfl, Nat.le_of_ble_eq_true rfl⟩ (fun r_604 u_604 H locs hP hD hS q_604 => ?_)
        obtain ⟨q9, hW⟩ := q_604
        subst q9
        obtain ⟨fs9, f_off⟩ := sw_off hW
        have f_zi := sw_zi hW
        have f_zc := sw_zc hW
        have f_zg := sw_zg hW
        have f_zf := sw_zf hW
        have f_zn := sw_zn hW
        have f_zl := sw_zl hW
        have f_zr := sw_zr hW
        have f_ze := sw_ze hW
        have f_zw := sw_zw hW
        have f_zq := sw_zq hW
        refine lv_ldc2d (v := 4636737291354636288) hx hb hown (hts (.constantDouble RL 65 (4636737291354636288)) (by decide +kernel)) dL_same_607 ?_
        refine lv_dload hx hb dL_same_610 (lv_at hl 16 rfl) ?_
        refine lv_dmul hx hb dL_same_612 hdir.2.2 ?_
        refine g_dcmpl_ne (tgt := 637) hx hb dL_same_613 dL_same_614 (by decide) (fun c_613 => absurd c_613 (fun z => z (Deq_n64 hdir.2.2))) (fun c_613 => ?_)
        refine lv_aload_n hx hb dL_same_617 rfl (lv_at hl 0 rfl) ?_
        refine lv_iload hx hb dL_same_618 (lv_at hl 13 rfl) ?_
        refine gc_V_d (As := [.int (nI (t))]) (rest := []) (q_core l hW hp ht) ⟨hx, hb, hml, hown, hts⟩ (cwV 1 hts gL_same_X6_core rfl rfl rfl (by decide +kernel) ⟨Nat.le_of_ble_eq_true rfl, Nat.le_of_ble_eq_true rfl⟩) hE hP hD hS hA _ f_off rfl rfl rfl rfl hl.1 (Nat.le_of_ble_eq_true rfl) dL_same_620 ⟨Nat.le_of_ble_eq_true rfl, Nat.le_of_ble_eq_true rfl⟩ (fun r_620 u_620 H locs hP hD hS q_620 => ?_)
        obtain ⟨q9, hW⟩ := q_620
        subst q9
        obtain ⟨fs9, f_off⟩ := sw_off hW
        have f_zi := sw_zi hW
        have f_zc := sw_zc hW
        have f_zg := sw_zg hW
        have f_zf := sw_zf hW
        have f_zn := sw_zn hW
        have f_zl := sw_zl hW
        have f_zr := sw_zr hW
        have f_ze := sw_ze hW
        have f_zw := sw_zw hW
        have f_zq := sw_zq hW
        refine lv_dload hx hb dL_same_623 (lv_at hl 19 rfl) ?_
        refine g_dv (v' := smF grp t (gtF grp t 3) (coreL grp t (if gtF grp t 3 = 0 then 1 else 0)) 4) (core_co hg4 4 (Nat.le_refl 4)) ?_
        refine lv_ldc2d (v := 4611686018427387904) hx hb hown (hts (.constantDouble RL 138 (4611686018427387904)) (by decide +kernel)) dL_same_625 ?_
        refine lv_ddiv hx hb dL_same_628 (hcore _ _ 0 (by decide)).2 ?_
        refine g_dcmpl_ne (tgt := 637) hx hb dL_same_629 dL_same_630 (by decide) (fun c_629 => absurd c_629 (fun z => z (Deq_n64 (hcore _ _ 0 (by decide)).2))) (fun c_629 => ?_)
        refine lv_iconst (v := nI 1) hx hb dL_same_633 (by decide) ?_
        refine lv_goto (tgt := 638) hx hb dL_same_634 (by decide) ?_
        refine lv_istore (lv' := [(12, .int (nI (1))), (0, .ref (ad 1)), (1, .int (yv)), (2, .ref (ad 30)), (3, .ref (ad 31)), (4, .ref (ad 32)), (5, .ref (ad 33)), (6, .ref (ad 34)), (7, .ref (ad 35)), (8, .ref (ad 36)), (9, .ref (ad 37)), (10, .ref (ad 40)), (11, .ref (ad 41)), (13, .int (nI (t))), (14, .int (nI (kd))), (15, .int (nI (g))), (16, .double (drF shr grp t (4))), (18, .double (mxF grp t (4))), (20, .double (mnF grp t (4))), (22, .double ((coF grp t (mxF grp t 4) (mnF grp t 4) (4)).2.2)), (24, .int (gb ((coF grp t (mxF grp t 4) (mnF grp t 4) (4)).1))), (25, .int (gb ((coF grp t (mxF grp t 4) (mnF grp t 4) (4)).2.1))), (26, .int (nI (4)))]) hx hb dL_same_638 hl (by decide) rfl (fun ls hl => ?_)
        refine lv_iconst (v := nI 0) hx hb dL_same_640 (by decide) ?_
        refine lv_istore (lv' := [(26, .int (nI (0))), (12, .int (nI (1))), (0, .ref (ad 1)), (1, .int (yv)), (2, .ref (ad 30)), (3, .ref (ad 31)), (4, .ref (ad 32)), (5, .ref (ad 33)), (6, .ref (ad 34)), (7, .ref (ad 35)), (8, .ref (ad 36)), (9, .ref (ad 37)), (10, .ref (ad 40)), (11, .ref (ad 41)), (13, .int (nI (t))), (14, .int (nI (kd))), (15, .int (nI (g))), (16, .double (drF shr grp t (4))), (18, .double (mxF grp t (4))), (20, .double (mnF grp t (4))), (22, .double ((coF grp t (mxF grp t 4) (mnF grp t 4) (4)).2.2)), (24, .int (gb ((coF grp t (mxF grp t 4) (mnF grp t 4) (4)).1))), (25, .int (gb ((coF grp t (mxF grp t 4) (mnF grp t 4) (4)).2.1)))]) hx hb dL_same_641 hl (by decide) rfl (fun ls hl => ?_)
        refine lv_iconst (v := nI 0) hx hb dL_same_643 (by decide) ?_
        refine lv_istore (lv' := [(27, .int (nI (0))), (26, .int (nI (0))), (12, .int (nI (1))), (0, .ref (ad 1)), (1, .int (yv)), (2, .ref (ad 30)), (3, .ref (ad 31)), (4, .ref (ad 32)), (5, .ref (ad 33)), (6, .ref (ad 34)), (7, .ref (ad 35)), (8, .ref (ad 36)), (9, .ref (ad 37)), (10, .ref (ad 40)), (11, .ref (ad 41)), (13, .int (nI (t))), (14, .int (nI (kd))), (15, .int (nI (g))), (16, .double (drF shr grp t (4))), (18, .double (mxF grp t (4))), (20, .double (mnF grp t (4))), (22, .double ((coF grp t (mxF grp t 4) (mnF grp t 4) (4)).2.2)), (24, .int (gb ((coF grp t (mxF grp t 4) (mnF grp t 4) (4)).1))), (25, .int (gb ((coF grp t (mxF grp t 4) (mnF grp t 4) (4)).2.1)))]) hx hb dL_same_644 hl (by decide) rfl (fun ls hl => ?_)
        refine g_forW (fun k w9 => SW ad y nw n nc qn fq mc1 mc2 aita acta qe cents grams cf cc fx lc lg told adp shr pr rel grp idx num zi zc zg zf zn zl zr ze zt za zw zq G M Sn fw lag trig fl fm cs pi pc w9) (fun k => [(0, .ref (ad 1)), (1, .int (yv)), (2, .ref (ad 30)), (3, .ref (ad 31)), (4, .ref (ad 32)), (5, .ref (ad 33)), (6, .ref (ad 34)), (7, .ref (ad 35)), (8, .ref (ad 36)), (9, .ref (ad 37)), (10, .ref (ad 40)), (11, .ref (ad 41)), (12, .int (nI (1))), (13, .int (nI (t))), (14, .int (nI (kd))), (15, .int (nI (g))), (16, .double (drF shr grp t (4))), (18, .double (mxF grp t (4))), (20, .double (mnF grp t (4))), (22, .double ((coF grp t (mxF grp t 4) (mnF grp t 4) (4)).2.2)), (24, .int (gb ((coF grp t (mxF grp t 4) (mnF grp t 4) (4)).1))), (25, .int (gb ((coF grp t (mxF grp t 4) (mnF grp t 4) (4)).2.1))), (26, .int (nI (dSm (rK cf cents grams lc lg pr) (sRate cents grams) (sBase lc lg pr) t (k)))), (27, .int (nI (k)))]) (n) (0) 0 0 (by omega) ?_ ?_ hW hP hD hS (lv_sub hl [3, 4, 5, 6, 7, 8, 9, 10, 11, 12, 13, 14, 2, 15, 16, 17, 18, 19, 20, 21, 22, 23, 1, 0] rfl) (Nat.le_of_ble_eq_true rfl) (Nat.le_of_ble_eq_true rfl)
        · intro w646 hW H locs ls hP hD hS hl
          have hl : lv_has ls 31 [(0, .ref (ad 1)), (1, .int (yv)), (2, .ref (ad 30)), (3, .ref (ad 31)), (4, .ref (ad 32)), (5, .ref (ad 33)), (6, .ref (ad 34)), (7, .ref (ad 35)), (8, .ref (ad 36)), (9, .ref (ad 37)), (10, .ref (ad 40)), (11, .ref (ad 41)), (12, .int (nI (1))), (13, .int (nI (t))), (14, .int (nI (kd))), (15, .int (nI (g))), (16, .double (drF shr grp t (4))), (18, .double (mxF grp t (4))), (20, .double (mnF grp t (4))), (22, .double ((coF grp t (mxF grp t 4) (mnF grp t 4) (4)).2.2)), (24, .int (gb ((coF grp t (mxF grp t 4) (mnF grp t 4) (4)).1))), (25, .int (gb ((coF grp t (mxF grp t 4) (mnF grp t 4) (4)).2.1))), (26, .int (nI (dSm (rK cf cents grams lc lg pr) (sRate cents grams) (sBase lc lg pr) t (n)))), (27, .int (nI (n)))] := hl
          have hW : SW ad y nw n nc qn fq mc1 mc2 aita acta qe cents grams cf cc fx lc lg told adp shr pr rel grp idx num zi zc zg zf zn zl zr ze zt za zw zq G M Sn fw lag trig fl fm cs pi pc w646 := hW
          obtain ⟨fs9, f_off⟩ := sw_off hW
          have f_zi := sw_zi hW
          have f_zc := sw_zc hW
          have f_zg := sw_zg hW
          have f_zf := sw_zf hW
          have f_zn := sw_zn hW
          have f_zl := sw_zl hW
          have f_zr := sw_zr hW
          have f_ze := sw_ze hW
          have f_zw := sw_zw hW
          have f_zq := sw_zq hW
          refine lv_iload hx hb dL_same_646 (lv_at hl 23 rfl) ?_
          refine lv_aload hx hb dL_same_648 (lv_at hl 11 rfl) ?_
          refine lv_iconst (v := nI 0) hx hb dL_same_650 (by decide) ?_
          refine g_nald hx hb hE hP _ f_zq (by omega) (by decide) dL_same_651 ?_
          have bd_651_8 := b_zq (0)
          refine g_iv (v' := nI (n)) (congrArg nI hq.1) ?_
          refine g_icmp_ge (tgt := 893) hx hb (by omega) (by omega) dL_same_652 (by decide) (fun c_652 => ?_) (fun c_652 => absurd c_652 (by omega))
          refine lv_iload hx hb dL_same_893 (lv_at hl 12 rfl) ?_
          refine g_if_eq (tgt := 913) hx hb (by omega) dL_same_895 (by decide) (fun c_895 => absurd c_895 (by decide)) (fun c_895 => ?_)
          refine lv_aload_n hx hb dL_same_898 rfl (lv_at hl 0 rfl) ?_
          refine lv_iload hx hb dL_same_899 (lv_at hl 13 rfl) ?_
          refine gc_V_i (As := [.int (nI (t))]) (rest := []) (q_doubts l hW hp ht) ⟨hx, hb, hml, hown, hts⟩ (cwV 1 hts gL_same_X6_doubts rfl rfl rfl (by decide +kernel) ⟨Nat.le_of_ble_eq_true rfl, Nat.le_of_ble_eq_true rfl⟩) hE hP hD hS hA _ f_off rfl rfl rfl rfl hl.1 (Nat.le_of_ble_eq_true rfl) dL_same_901 ⟨Nat.le_of_ble_eq_true rfl, Nat.le_of_ble_eq_true rfl⟩ (fun r_901 u_901 H locs hP hD hS q_901 => ?_)
          obtain ⟨q9, hW⟩ := q_901
          subst q9
          obtain ⟨fs9, f_off⟩ := sw_off hW
          have f_zi := sw_zi hW
          have f_zc := sw_zc hW
          have f_zg := sw_zg hW
          have f_zf := sw_zf hW
          have f_zn := sw_zn hW
          have f_zl := sw_zl hW
          have f_zr := sw_zr hW
          have f_ze := sw_ze hW
          have f_zw := sw_zw hW
          have f_zq := sw_zq hW
          refine lv_iload hx hb dL_same_904 (lv_at hl 22 rfl) ?_
          refine g_icmp_ne (tgt := 913) hx hb (by have := dbF_le (rK cf cents grams lc lg pr) cents (sBase lc lg pr) (t * 48) 48; omega) (by have := dSm_le (rK cf cents grams lc lg pr) (sRate cents grams) (sBase lc lg pr) t n; omega) dL_same_906 (by decide) (fun c_906 => absurd c_906 (fun z => z (doubts_eq (fun q => rate_gt (hdb.1 q) (hdb.2.1 q) (hcg q)) (by omega) (fun i hi => (hcg _).mpr (hz2 t i hi).1) (fun i h1 h2 j hj => (hdz t i h1 h2 j hj).1)))) (fun c_906 => ?_)
          refine lv_iconst (v := nI 1) hx hb dL_same_909 (by decide) ?_
          refine lv_goto (tgt := 914) hx hb dL_same_910 (by decide) ?_
          refine lv_istore (lv' := [(12, .int (nI (1))), (0, .ref (ad 1)), (1, .int (yv)), (2, .ref (ad 30)), (3, .ref (ad 31)), (4, .ref (ad 32)), (5, .ref (ad 33)), (6, .ref (ad 34)), (7, .ref (ad 35)), (8, .ref (ad 36)), (9, .ref (ad 37)), (10, .ref (ad 40)), (11, .ref (ad 41)), (13, .int (nI (t))), (14, .int (nI (kd))), (15, .int (nI (g))), (16, .double (drF shr grp t (4))), (18, .double (mxF grp t (4))), (20, .double (mnF grp t (4))), (22, .double ((coF grp t (mxF grp t 4) (mnF grp t 4) (4)).2.2)), (24, .int (gb ((coF grp t (mxF grp t 4) (mnF grp t 4) (4)).1))), (25, .int (gb ((coF grp t (mxF grp t 4) (mnF grp t 4) (4)).2.1))), (26, .int (nI (dSm (rK cf cents grams lc lg pr) (sRate cents grams) (sBase lc lg pr) t (n)))), (27, .int (nI (n)))]) hx hb dL_same_914 hl (by decide) rfl (fun ls hl => ?_)
          refine lv_iconst (v := nI 0) hx hb dL_same_916 (by decide) ?_
          refine lv_istore (lv' := [(27, .int (nI (0))), (12, .int (nI (1))), (0, .ref (ad 1)), (1, .int (yv)), (2, .ref (ad 30)), (3, .ref (ad 31)), (4, .ref (ad 32)), (5, .ref (ad 33)), (6, .ref (ad 34)), (7, .ref (ad 35)), (8, .ref (ad 36)), (9, .ref (ad 37)), (10, .ref (ad 40)), (11, .ref (ad 41)), (13, .int (nI (t))), (14, .int (nI (kd))), (15, .int (nI (g))), (16, .double (drF shr grp t (4))), (18, .double (mxF grp t (4))), (20, .double (mnF grp t (4))), (22, .double ((coF grp t (mxF grp t 4) (mnF grp t 4) (4)).2.2)), (24, .int (gb ((coF grp t (mxF grp t 4) (mnF grp t 4) (4)).1))), (25, .int (gb ((coF grp t (mxF grp t 4) (mnF grp t 4) (4)).2.1))), (26, .int (nI (dSm (rK cf cents grams lc lg pr) (sRate cents grams) (sBase lc lg pr) t (n))))]) hx hb dL_same_917 hl (by decide) rfl (fun ls hl => ?_)
          refine g_forW (fun k w9 => SW ad y nw n nc qn fq mc1 mc2 aita acta qe cents grams cf cc fx lc lg told adp shr pr rel grp idx num zi zc zg zf zn zl zr ze zt za zw zq G M Sn fw lag trig fl fm cs pi pc w9) (fun k => [(0, .ref (ad 1)), (1, .int (yv)), (2, .ref (ad 30)), (3, .ref (ad 31)), (4, .ref (ad 32)), (5, .ref (ad 33)), (6, .ref (ad 34)), (7, .ref (ad 35)), (8, .ref (ad 36)), (9, .ref (ad 37)), (10, .ref (ad 40)), (11, .ref (ad 41)), (12, .int (nI (1))), (13, .int (nI (t))), (14, .int (nI (kd))), (15, .int (nI (g))), (16, .double (drF shr grp t (4))), (18, .double (mxF grp t (4))), (20, .double (mnF grp t (4))), (22, .double ((coF grp t (mxF grp t 4) (mnF grp t 4) (4)).2.2)), (24, .int (gb ((coF grp t (mxF grp t 4) (mnF grp t 4) (4)).1))), (25, .int (gb ((coF grp t (mxF grp t 4) (mnF grp t 4) (4)).2.1))), (26, .int (nI (dSm (rK cf cents grams lc lg pr) (sRate cents grams) (sBase lc lg pr) t (n)))), (27, .int (nI (k)))]) (nc) (0) 1 9 (by omega) ?_ ?_ hW hP hD hS (lv_sub hl [2, 3, 4, 5, 6, 7, 8, 9, 10, 11, 12, 13, 1, 14, 15, 16, 17, 18, 19, 20, 21, 22, 23, 0] rfl) (Nat.le_of_ble_eq_true rfl) (Nat.le_of_ble_eq_true rfl)
          · intro w919 hW H locs ls hP hD hS hl
            have hl : lv_has ls 31 [(0, .ref (ad 1)), (1, .int (yv)), (2, .ref (ad 30)), (3, .ref (ad 31)), (4, .ref (ad 32)), (5, .ref (ad 33)), (6, .ref (ad 34)), (7, .ref (ad 35)), (8, .ref (ad 36)), (9, .ref (ad 37)), (10, .ref (ad 40)), (11, .ref (ad 41)), (12, .int (nI (1))), (13, .int (nI (t))), (14, .int (nI (kd))), (15, .int (nI (g))), (16, .double (drF shr grp t (4))), (18, .double (mxF grp t (4))), (20, .double (mnF grp t (4))), (22, .double ((coF grp t (mxF grp t 4) (mnF grp t 4) (4)).2.2)), (24, .int (gb ((coF grp t (mxF grp t 4) (mnF grp t 4) (4)).1))), (25, .int (gb ((coF grp t (mxF grp t 4) (mnF grp t 4) (4)).2.1))), (26, .int (nI (dSm (rK cf cents grams lc lg pr) (sRate cents grams) (sBase lc lg pr) t (n)))), (27, .int (nI (nc)))] := hl
            have hW : SW ad y nw n nc qn fq mc1 mc2 aita acta qe cents grams cf cc fx lc lg told adp shr pr rel grp idx num zi zc zg zf zn zl zr ze zt za zw zq G M Sn fw lag trig fl fm cs pi pc w919 := hW
            obtain ⟨fs9, f_off⟩ := sw_off hW
            have f_zi := sw_zi hW
            have f_zc := sw_zc hW
            have f_zg := sw_zg hW
            have f_zf := sw_zf hW
            have f_zn := sw_zn hW
            have f_zl := sw_zl hW
            have f_zr := sw_zr hW
            have f_ze := sw_ze hW
            have f_zw := sw_zw hW
            have f_zq := sw_zq hW
            refine lv_iload hx hb dL_same_919 (lv_at hl 23 rfl) ?_
            refine lv_aload hx hb dL_same_921 (lv_at hl 11 rfl) ?_
            refine lv_iconst (v := nI 3) hx hb dL_same_923 (by decide) ?_
            refine g_nald hx hb hE hP _ f_zq (by omega) (by decide) dL_same_924 ?_
            have bd_924_9 := b_zq (3)
            refine g_iv (v' := nI (nc)) (congrArg nI hq.2.2.2.1) ?_
            refine g_icmp_ge (tgt := 1074) hx hb (by omega) (by omega) dL_same_925 (by decide) (fun c_925 => ?_) (fun c_925 => absurd c_925 (by omega))
            refine lv_iload hx hb dL_same_1074 (lv_at hl 12 rfl) ?_
            refine W.widen (k := 3) (n := 27) (by show nc * 1 ≤ 3; omega) (by show nc * 9 ≤ 27; omega) ?_
            refine g_zret (r := (gb (true))) hx hb hr hlocks w919 dL_same_1076 (gb_narrow _) hS hP hD ?_
            exact ⟨rfl, hW⟩
          · intro k hj_k ih_k w919 hW H locs ls hP hD hS hl
            have hl : lv_has ls 31 [(0, .ref (ad 1)), (1, .int (yv)), (2, .ref (ad 30)), (3, .ref (ad 31)), (4, .ref (ad 32)), (5, .ref (ad 33)), (6, .ref (ad 34)), (7, .ref (ad 35)), (8, .ref (ad 36)), (9, .ref (ad 37)), (10, .ref (ad 40)), (11, .ref (ad 41)), (12, .int (nI (1))), (13, .int (nI (t))), (14, .int (nI (kd))), (15, .int (nI (g))), (16, .double (drF shr grp t (4))), (18, .double (mxF grp t (4))), (20, .double (mnF grp t (4))), (22, .double ((coF grp t (mxF grp t 4) (mnF grp t 4) (4)).2.2)), (24, .int (gb ((coF grp t (mxF grp t 4) (mnF grp t 4) (4)).1))), (25, .int (gb ((coF grp t (mxF grp t 4) (mnF grp t 4) (4)).2.1))), (26, .int (nI (dSm (rK cf cents grams lc lg pr) (sRate cents grams) (sBase lc lg pr) t (n)))), (27, .int (nI (k)))] := hl
            have hW : SW ad y nw n nc qn fq mc1 mc2 aita acta qe cents grams cf cc fx lc lg told adp shr pr rel grp idx num zi zc zg zf zn zl zr ze zt za zw zq G M Sn fw lag trig fl fm cs pi pc w919 := hW
            obtain ⟨fs9, f_off⟩ := sw_off hW
            have f_zi := sw_zi hW
            have f_zc := sw_zc hW
            have f_zg := sw_zg hW
            have f_zf := sw_zf hW
            have f_zn := sw_zn hW
            have f_zl := sw_zl hW
            have f_zr := sw_zr hW
            have f_ze := sw_ze hW
            have f_zw := sw_zw hW
            have f_zq := sw_zq hW
            obtain ⟨w1, w2, w3, w4, w5, w6, w7, w8, w9⟩ := hcw k hj_k
            obtain ⟨c1, c2, c3, c4, c5, c6, c7, c8, c9⟩ := hcb k hj_k
            refine lv_iload hx hb dL_same_919 (lv_at hl 23 rfl) ?_
            refine lv_aload hx hb dL_same_921 (lv_at hl 11 rfl) ?_
            refine lv_iconst (v := nI 3) hx hb dL_same_923 (by decide) ?_
            refine g_nald hx hb hE hP _ f_zq (by omega) (by decide) dL_same_924 ?_
            have bd_924_10 := b_zq (3)
            refine g_iv (v' := nI (nc)) (congrArg nI hq.2.2.2.1) ?_
            refine g_icmp_ge (tgt := 1074) hx hb (by omega) (by omega) dL_same_925 (by decide) (fun c_925 => absurd c_925 (by omega)) (fun c_925 => ?_)
            refine lv_iload hx hb dL_same_928 (lv_at hl 12 rfl) ?_
            refine g_if_eq (tgt := 1074) hx hb (by omega) dL_same_930 (by decide) (fun c_930 => absurd c_930 (by decide)) (fun c_930 => ?_)
            refine lv_aload_n hx hb dL_same_933 rfl (lv_at hl 0 rfl) ?_
            refine lv_iload hx hb dL_same_934 (lv_at hl 23 rfl) ?_
            refine lv_iconst (v := nI 0) hx hb dL_same_936 (by decide) ?_
            refine gc_V_l (As := [.int (nI (k)), .int (nI (0))]) (rest := []) (q0_ofContract l hW hp hj_k) ⟨hx, hb, hml, hown, hts⟩ (cwV 2 hts gL_same_X6_ofContract rfl rfl rfl (by decide +kernel) ⟨Nat.le_of_ble_eq_true rfl, Nat.le_of_ble_eq_true rfl⟩) hE hP hD hS hA _ f_off rfl rfl rfl rfl hl.1 (Nat.le_of_ble_eq_true rfl) dL_same_937 ⟨(by show k * 1 + 0 + 0 ≤ 3; omega), (by show k * 9 + 0 + 0 ≤ 27; omega)⟩ (fun r_937 u_937 H locs hP hD hS q_937 => ?_)
            obtain ⟨q9, hW⟩ := q_937
            subst q9
            obtain ⟨fs9, f_off⟩ := sw_off hW
            have f_zi := sw_zi hW
            have f_zc := sw_zc hW
            have f_zg := sw_zg hW
            have f_zf := sw_zf hW
            have f_zn := sw_zn hW
            have f_zl := sw_zl hW
            have f_zr := sw_zr hW
            have f_ze := sw_ze hW
            have f_zw := sw_zw hW
            have f_zq := sw_zq hW
            refine lv_aload hx hb dL_same_940 (lv_at hl 10 rfl) ?_
            refine lv_bipush (v := nI 10) hx hb dL_same_942 (by decide) ?_
            refine lv_iload hx hb dL_same_944 (lv_at hl 23 rfl) ?_
            refine g_imul hx hb dL_same_946 (pk_mul _ _) ?_
            refine g_Lald hx hb hE hP _ f_zw (by omega) (by decide) dL_same_947 ?_
            have bd_947_11 := b_zw (10 * k)
            refine g_lcmp_ne (tgt := 1065) hx hb (by omega) (by omega) dL_same_948 dL_same_949 (by decide) (fun c_948 => absurd c_948 (fun z => z w1.symm)) (fun c_948 => ?_)
            refine lv_aload_n hx hb dL_same_952 rfl (lv_at hl 0 rfl) ?_
            refine lv_iload hx hb dL_same_953 (lv_at hl 23 rfl) ?_
            refine lv_iconst (v := nI 1) hx hb dL_same_955 (by decide) ?_
            refine gc_V_l (As := [.int (nI (k)), .int (nI (1))]) (rest := []) (q1_ofContract l hW hp hj_k) ⟨hx, hb, hml, hown, hts⟩ (cwV 2 hts gL_same_X6_ofContract rfl rfl rfl (by decide +kernel) ⟨Nat.le_of_ble_eq_true rfl, Nat.le_of_ble_eq_true rfl⟩) hE hP hD hS hA _ f_off rfl rfl rfl rfl hl.1 (Nat.le_of_ble_eq_true rfl) dL_same_956 ⟨(by show k * 1 + 0 + 0 ≤ 3; omega), (by show k * 9 + 0 + 0 ≤ 27; omega)⟩ (fun r_956 u_956 H locs hP hD hS q_956 => ?_)
            obtain ⟨q9, hW⟩ := q_956
            subst q9
            obtain ⟨fs9, f_off⟩ := sw_off hW
            have f_zi := sw_zi hW
            have f_zc := sw_zc hW
            have f_zg := sw_zg hW
            have f_zf := sw_zf hW
            have f_zn := sw_zn hW
            have f_zl := sw_zl hW
            have f_zr := sw_zr hW
            have f_ze := sw_ze hW
            have f_zw := sw_zw hW
            have f_zq := sw_zq hW
            refine lv_aload hx hb dL_same_959 (lv_at hl 10 rfl) ?_
            refine lv_bipush (v := nI 10) hx hb dL_same_961 (by decide) ?_
            refine lv_iload hx hb dL_same_963 (lv_at hl 23 rfl) ?_
            refine g_imul hx hb dL_same_965 (pk_mul _ _) ?_
            refine lv_iconst (v := nI 4) hx hb dL_same_966 (by decide) ?_
            refine g_iadd hx hb dL_same_967 (nI_add _ _) ?_
            refine g_Lald hx hb hE hP _ f_zw (by omega) (by decide) dL_same_968 ?_
            have bd_968_12 := b_zw ((10 * k) + 4)
            refine g_lcmp_ne (tgt := 1065) hx hb (by omega) (by omega) dL_same_969 dL_same_970 (by decide) (fun c_969 => absurd c_969 (fun z => z w5.symm)) (fun c_969 => ?_)
            refine lv_aload_n hx hb dL_same_973 rfl (lv_at hl 0 rfl) ?_
            refine lv_iload hx hb dL_same_974 (lv_at hl 23 rfl) ?_
            refine lv_iconst (v := nI 2) hx hb dL_same_976 (by decide) ?_
            refine gc_V_l (As := [.int (nI (k)), .int (nI (2))]) (rest := []) (q2_ofContract l hW hp hj_k) ⟨hx, hb, hml, hown, hts⟩ (cwV 2 hts gL_same_X6_ofContract rfl rfl rfl (by decide +kernel) ⟨Nat.le_of_ble_eq_true rfl, Nat.le_of_ble_eq_true rfl⟩) hE hP hD hS hA _ f_off rfl rfl rfl rfl hl.1 (Nat.le_of_ble_eq_true rfl) dL_same_977 ⟨(by show k * 1 + 0 + 0 ≤ 3; omega), (by show k * 9 + 0 + 0 ≤ 27; omega)⟩ (fun r_977 u_977 H locs hP hD hS q_977 => ?_)
            obtain ⟨q9, hW⟩ := q_977
            subst q9
            obtain ⟨fs9, f_off⟩ := sw_off hW
            have f_zi := sw_zi hW
            have f_zc := sw_zc hW
            have f_zg := sw_zg hW
            have f_zf := sw_zf hW
            have f_zn := sw_zn hW
            have f_zl := sw_zl hW
            have f_zr := sw_zr hW
            have f_ze := sw_ze hW
            have f_zw := sw_zw hW
            have f_zq := sw_zq hW
            refine lv_aload hx hb dL_same_980 (lv_at hl 10 rfl) ?_
            refine lv_bipush (v := nI 10) hx hb dL_same_982 (by decide) ?_
            refine lv_iload hx hb dL_same_984 (lv_at hl 23 rfl) ?_
            refine g_imul hx hb dL_same_986 (pk_mul _ _) ?_
            refine lv_iconst (v := nI 5) hx hb dL_same_987 (by decide) ?_
            refine g_iadd hx hb dL_same_988 (nI_add _ _) ?_
            refine g_Lald hx hb hE hP _ f_zw (by omega) (by decide) dL_same_989 ?_
            have bd_989_13 := b_zw ((10 * k) + 5)
            refine g_lcmp_ne (tgt := 1065) hx hb (by omega) (by omega) dL_same_990 dL_same_991 (by decide) (fun c_990 => absurd c_990 (fun z => z w6.symm)) (fun c_990 => ?_)
            refine lv_aload_n hx hb dL_same_994 rfl (lv_at hl 0 rfl) ?_
            refine lv_iload hx hb dL_same_995 (lv_at hl 23 rfl) ?_
            refine lv_iconst (v := nI 3) hx hb dL_same_997 (by decide) ?_
            refine gc_V_l (As := [.int (nI (k)), .int (nI (3))]) (rest := []) (q3_ofContract l hW hp hj_k) ⟨hx, hb, hml, hown, hts⟩ (cwV 2 hts gL_same_X6_ofContract rfl rfl rfl (by decide +kernel) ⟨Nat.le_of_ble_eq_true rfl, Nat.le_of_ble_eq_true rfl⟩) hE hP hD hS hA _ f_off rfl rfl rfl rfl hl.1 (Nat.le_of_ble_eq_true rfl) dL_same_998 ⟨(by show k * 1 + 0 + 0 ≤ 3; omega), (by show k * 9 + 0 + 0 ≤ 27; omega)⟩ (fun r_998 u_998 H locs hP hD hS q_998 => ?_)
            obtain ⟨q9, hW⟩ := q_998
            subst q9
            obtain ⟨fs9, f_off⟩ := sw_off hW
            have f_zi := sw_zi hW
            have f_zc := sw_zc hW
            have f_zg := sw_zg hW
            have f_zf := sw_zf hW
            have f_zn := sw_zn hW
            have f_zl := sw_zl hW
            have f_zr := sw_zr hW
            have f_ze := sw_ze hW
            have f_zw := sw_zw hW
            have f_zq := sw_zq hW
            refine lv_aload hx hb dL_same_1001 (lv_at hl 10 rfl) ?_
            refine lv_bipush (v := nI 10) hx hb dL_same_1003 (by decide) ?_
            refine lv_iload hx hb dL_same_1005 (lv_at hl 23 rfl) ?_
            refine g_imul hx hb dL_same_1007 (pk_mul _ _) ?_
            refine lv_bipush (v := nI 6) hx hb dL_same_1008 (by decide) ?_
            refine g_iadd hx hb dL_same_1010 (nI_add _ _) ?_
            refine g_Lald hx hb hE hP _ f_zw (by omega) (by decide) dL_same_1011 ?_
            have bd_1011_14 := b_zw ((10 * k) + 6)
            refine g_lcmp_ne (tgt := 1065) hx hb (by omega) (by omega) dL_same_1012 dL_same_1013 (by decide) (fun c_1012 => absurd c_1012 (fun z => z w7.symm)) (fun c_1012 => ?_)
            refine lv_aload_n hx hb dL_same_1016 rfl (lv_at hl 0 rfl) ?_
            refine lv_iload hx hb dL_same_1017 (lv_at hl 23 rfl) ?_
            refine gc_V_l (As := [.int (nI (k))]) (rest := []) (q_owed l hW hp hj_k (by omega) hsT) ⟨hx, hb, hml, hown, hts⟩ (cwV 1 hts gL_same_X6_owed rfl rfl rfl (by decide +kernel) ⟨Nat.le_of_ble_eq_true rfl, Nat.le_of_ble_eq_true rfl⟩) hE hP hD hS hA _ f_off rfl rfl rfl rfl hl.1 (Nat.le_of_ble_eq_true rfl) dL_same_1019 ⟨(by show k * 1 + 0 + 1 ≤ 3; omega), (by show k * 9 + 0 + 9 ≤ 27; omega)⟩ (fun r_1019 u_1019 H locs hP hD hS q_1019 => ?_)
            obtain ⟨q9, hW⟩ := q_1019
            subst q9
            obtain ⟨fs9, f_off⟩ := sw_off hW
            have f_zi := sw_zi hW
            have f_zc := sw_zc hW
            have f_zg := sw_zg hW
            have f_zf := sw_zf hW
            have f_zn := sw_zn hW
            have f_zl := sw_zl hW
            have f_zr := sw_zr hW
            have f_ze := sw_ze hW
            have f_zw := sw_zw hW
            have f_zq := sw_zq hW
            refine lv_iload hx hb dL_same_1022 (lv_at hl 23 rfl) ?_
            refine lv_aload hx hb dL_same_1024 (lv_at hl 10 rfl) ?_
            refine lv_aload_n hx hb dL_same_1026 rfl (lv_at hl 2 rfl) ?_
            refine lv_aload_n hx hb dL_same_1027 rfl (lv_at hl 3 rfl) ?_
            refine lv_aload hx hb dL_same_1028 (lv_at hl 4 rfl) ?_
            refine lv_aload hx hb dL_same_1030 (lv_at hl 5 rfl) ?_
            refine lv_aload hx hb dL_same_1032 (lv_at hl 6 rfl) ?_
            refine lv_aload hx hb dL_same_1034 (lv_at hl 7 rfl) ?_
            refine lv_aload hx hb dL_same_1036 (lv_at hl 8 rfl) ?_
            refine lv_aload hx hb dL_same_1038 (lv_at hl 9 rfl) ?_
            refine lv_aload hx hb dL_same_1040 (lv_at hl 11 rfl) ?_
            refine gc_S_l (As := [.int (nI (k)), .ref (ad 40), .ref (ad 30), .ref (ad 31), .ref (ad 32), .ref (ad 33), .ref (ad 34), .ref (ad 35), .ref (ad 36), .ref (ad 37), .ref (ad 41)]) (rest := [.long (lN (paR (fw k) (lag k) (trig k) (fl k) (fm k) (fun t9 => sNumN (idxT (t9 * 5 + 0))) (nw - (fm k + 1))).2.2.2 - lN (cs k).2.2.2)]) (c_L_due l f_zw f_zi f_zc f_zg f_zf f_zn f_zl f_zr f_ze f_zq b_zw b_zi b_zc b_zg b_zf b_zn b_zl b_zr b_ze b_zq (num := fun t9 => sNumN (idxT (t9 * 5 + 0))) (n := n) (T := nw) (MM := M) (G := G) (M := rK cf cc grams lc lg prT) (o := sRate cc grams) (b := sBase lc lg prT) (pr := prT) (rel := relT) (grp := grpT) (shr := shr) (idx := idxT) (by omega) ⟨w8, w9, w2, w3, w4⟩ hq.2.1 c4 c1 c2 c3 (fun _ => rfl) (fun t9 ht9 => ⟨(num_all (by omega) (by omega) ((hBT t9 ht9).2.2.2.1 0 (by decide))).2, sNumN_le _⟩) hLT) ⟨hx, hb, hml, hown, hts⟩ (va_cwS 11 hts gL_same_L_due rfl rfl rfl (by decide +kernel) ⟨Nat.le_of_ble_eq_true rfl, Nat.le_of_ble_eq_true rfl⟩) hE hP hD hS hA rfl rfl hl.1 (Nat.le_of_ble_eq_true rfl) dL_same_1042 ⟨(by show k * 1 + 1 + 0 ≤ 3; omega), (by show k * 9 + 9 + 0 ≤ 27; omega)⟩ (fun r_1042 u_1042 H locs hP hD hS q_1042 => ?_)
            subst q_1042
            refine lv_aload hx hb dL_same_1045 (lv_at hl 10 rfl) ?_
            refine lv_bipush (v := nI 10) hx hb dL_same_1047 (by decide) ?_
            refine lv_iload hx hb dL_same_1049 (lv_at hl 23 rfl) ?_
            refine g_imul hx hb dL_same_1051 (pk_mul _ _) ?_
            refine lv_bipush (v := nI 6) hx hb dL_same_1052 (by decide) ?_
            refine g_iadd hx hb dL_same_1054 (nI_add _ _) ?_
            refine g_Lald hx hb hE hP _ f_zw (by omega) (by decide) dL_same_1055 ?_
            have bd_1055_15 := b_zw ((10 * k) + 6)
            refine g_lv (v' := lN (cs k).2.2.2) (congrArg lN w7) ?_
            refine g_lsub hx hb dL_same_1056  rfl ?_
            refine g_lcmpE_ne (tgt := 1065) hx hb dL_same_1057 dL_same_1058 (by decide) ?_
            refine lv_iconst (v := nI 1) hx hb dL_same_1061 (by decide) ?_
            refine lv_goto (tgt := 1066) hx hb dL_same_1062 (by decide) ?_
            refine lv_istore (lv' := [(12, .int (nI (1))), (0, .ref (ad 1)), (1, .int (yv)), (2, .ref (ad 30)), (3, .ref (ad 31)), (4, .ref (ad 32)), (5, .ref (ad 33)), (6, .ref (ad 34)), (7, .ref (ad 35)), (8, .ref (ad 36)), (9, .ref (ad 37)), (10, .ref (ad 40)), (11, .ref (ad 41)), (13, .int (nI (t))), (14, .int (nI (kd))), (15, .int (nI (g))), (16, .double (drF shr grp t (4))), (18, .double (mxF grp t (4))), (20, .double (mnF grp t (4))), (22, .double ((coF grp t (mxF grp t 4) (mnF grp t 4) (4)).2.2)), (24, .int (gb ((coF grp t (mxF grp t 4) (mnF grp t 4) (4)).1))), (25, .int (gb ((coF grp t (mxF grp t 4) (mnF grp t 4) (4)).2.1))), (26, .int (nI (dSm (rK cf cents grams lc lg pr) (sRate cents grams) (sBase lc lg pr) t (n)))), (27, .int (nI (k)))]) hx hb dL_same_1066 hl (by decide) rfl (fun ls hl => ?_)
            refine lv_iinc (v := nI (k + 1)) (lv' := [(27, .int (nI (k + 1))), (12, .int (nI (1))), (0, .ref (ad 1)), (1, .int (yv)), (2, .ref (ad 30)), (3, .ref (ad 31)), (4, .ref (ad 32)), (5, .ref (ad 33)), (6, .ref (ad 34)), (7, .ref (ad 35)), (8, .ref (ad 36)), (9, .ref (ad 37)), (10, .ref (ad 40)), (11, .ref (ad 41)), (13, .int (nI (t))), (14, .int (nI (kd))), (15, .int (nI (g))), (16, .double (drF shr grp t (4))), (18, .double (mxF grp t (4))), (20, .double (mnF grp t (4))), (22, .double ((coF grp t (mxF grp t 4) (mnF grp t 4) (4)).2.2)), (24, .int (gb ((coF grp t (mxF grp t 4) (mnF grp t 4) (4)).1))), (25, .int (gb ((coF grp t (mxF grp t 4) (mnF grp t 4) (4)).2.1))), (26, .int (nI (dSm (rK cf cents grams lc lg pr) (sRate cents grams) (sBase lc lg pr) t (n))))]) hx hb dL_same_1068 hl (k := 23) rfl (nI_add _ 1) (by decide) rfl (fun ls hl => ?_)
            refine lv_goto (tgt := 919) hx hb dL_same_1071 (by decide) ?_
            refine W.widen (k := (k + 1) * 1) (n := (k + 1) * 9) (by show k * 1 + 1 ≤ (k + 1) * 1; omega) (by show k * 9 + 9 ≤ (k + 1) * 9; omega) ?_
            exact ih_k _ hW H locs ls hP hD hS (lv_sub hl [2, 3, 4, 5, 6, 7, 8, 9, 10, 11, 12, 13, 1, 14, 15, 16, 17, 18, 19, 20, 21, 22, 23, 0] rfl)
        · intro k hj_k ih_k w646 hW H locs ls hP hD hS hl
          have hl : lv_has ls 31 [(0, .ref (ad 1)), (1, .int (yv)), (2, .ref (ad 30)), (3, .ref (ad 31)), (4, .ref (ad 32)), (5, .ref (ad 33)), (6, .ref (ad 34)), (7, .ref (ad 35)), (8, .ref (ad 36)), (9, .ref (ad 37)), (10, .ref (ad 40)), (11, .ref (ad 41)), (12, .int (nI (1))), (13, .int (nI (t))), (14, .int (nI (kd))), (15, .int (nI (g))), (16, .double (drF shr grp t (4))), (18, .double (mxF grp t (4))), (20, .double (mnF grp t (4))), (22, .double ((coF grp t (mxF grp t 4) (mnF grp t 4) (4)).2.2)), (24, .int (gb ((coF grp t (mxF grp t 4) (mnF grp t 4) (4)).1))), (25, .int (gb ((coF grp t (mxF grp t 4) (mnF grp t 4) (4)).2.1))), (26, .int (nI (dSm (rK cf cents grams lc lg pr) (sRate cents grams) (sBase lc lg pr) t (k)))), (27, .int (nI (k)))] := hl
          have hW : SW ad y nw n nc qn fq mc1 mc2 aita acta qe cents grams cf cc fx lc lg told adp shr pr rel grp idx num zi zc zg zf zn zl zr ze zt za zw zq G M Sn fw lag trig fl fm cs pi pc w646 := hW
          obtain ⟨fs9, f_off⟩ := sw_off hW
          have f_zi := sw_zi hW
          have f_zc := sw_zc hW
          have f_zg := sw_zg hW
          have f_zf := sw_zf hW
          have f_zn := sw_zn hW
          have f_zl := sw_zl hW
          have f_zr := sw_zr hW
          have f_ze := sw_ze hW
          have f_zw := sw_zw hW
          have f_zq := sw_zq hW
          refine lv_iload hx hb dL_same_646 (lv_at hl 23 rfl) ?_
          refine lv_aload hx hb dL_same_648 (lv_at hl 11 rfl) ?_
          refine lv_iconst (v := nI 0) hx hb dL_same_650 (by decide) ?_
          refine g_nald hx hb hE hP _ f_zq (by omega) (by decide) dL_same_651 ?_
          have bd_651_16 := b_zq (0)
          refine g_iv (v' := nI (n)) (congrArg nI hq.1) ?_
          refine g_icmp_ge (tgt := 893) hx hb (by omega) (by omega) dL_same_652 (by decide) (fun c_652 => absurd c_652 (by omega)) (fun c_652 => ?_)
          refine lv_iload hx hb dL_same_655 (lv_at hl 12 rfl) ?_
          refine g_if_eq (tgt := 893) hx hb (by omega) dL_same_657 (by decide) (fun c_657 => absurd c_657 (by decide)) (fun c_657 => ?_)
          refine lv_iload hx hb dL_same_660 (lv_at hl 22 rfl) ?_
          refine lv_iload hx hb dL_same_662 (lv_at hl 23 rfl) ?_
          refine lv_iload hx hb dL_same_664 (lv_at hl 13 rfl) ?_
          refine lv_bipush (v := nI 8) hx hb dL_same_666 (by decide) ?_
          refine lv_iconst (v := nI 0) hx hb dL_same_668 (by decide) ?_
          refine lv_aload_n hx hb dL_same_669 rfl (lv_at hl 2 rfl) ?_
          refine lv_aload_n hx hb dL_same_670 rfl (lv_at hl 3 rfl) ?_
          refine lv_aload hx hb dL_same_671 (lv_at hl 4 rfl) ?_
          refine lv_aload hx hb dL_same_673 (lv_at hl 5 rfl) ?_
          refine lv_aload hx hb dL_same_675 (lv_at hl 6 rfl) ?_
          refine lv_aload hx hb dL_same_677 (lv_at hl 7 rfl) ?_
          refine lv_aload hx hb dL_same_679 (lv_at hl 8 rfl) ?_
          refine gc_S_d (As := [.int (nI (k)), .int (nI (t)), .int (nI (8)), .int (gb (false)), .ref (ad 30), .ref (ad 31), .ref (ad 32), .ref (ad 33), .ref (ad 34), .ref (ad 35), .ref (ad 36)]) (rest := [.int (nI (dSm (rK cf cents grams lc lg pr) (sRate cents grams) (sBase lc lg pr) t (k)))]) (c_L_goes l f_zi f_zc f_zg f_zf f_zn f_zl f_zr b_zi b_zc b_zg b_zf b_zn b_zl b_zr (mn := M k) (T := nw) (M := (rK cf cents grams lc lg pr)) (o := (sRate cents grams)) (b := (sBase lc lg pr)) (pr := pr) (by omega) ht l1.2.2 (by decide) (l2 k hj_k).2.1 (l2 k hj_k).2.2 (fun t9 ht9 => (l3 k hj_k t9 ht9).1)) ⟨hx, hb, hml, hown, hts⟩ (va_cwS 11 hts gL_same_L_goes rfl rfl rfl (by decide +kernel) ⟨Nat.le_of_ble_eq_true rfl, Nat.le_of_ble_eq_true rfl⟩) hE hP hD hS hA rfl rfl hl.1 (Nat.le_of_ble_eq_true rfl) dL_same_681 ⟨Nat.le_of_ble_eq_true rfl, Nat.le_of_ble_eq_true rfl⟩ (fun r_681 u_681 H locs hP hD hS q_681 => ?_)
          have q9 := q_681.trans gV_8
          subst q9
          refine lv_d2i hx hb dL_same_684 ?_
          refine g_iv (v' := nI (dN (sRate cents grams (t * 48 + k * 4 + 0 + 0)) (sBase lc lg pr (t * 48 + k * 4 + 0 + 0)) (rK cf cents grams lc lg pr (t * 48 + k * 4 + 0 + 0)) + dN (sRate cents grams (t * 48 + k * 4 + 0 + 1)) (sBase lc lg pr (t * 48 + k * 4 + 0 + 1)) (rK cf cents grams lc lg pr (t * 48 + k * 4 + 0 + 1)) + dN (sRate cents grams (t * 48 + k * 4 + 0 + 3)) (sBase lc lg pr (t * 48 + k * 4 + 0 + 3)) (rK cf cents grams lc lg pr (t * 48 + k * 4 + 0 + 3)))) (FP.Core.d2i_i2d _) ?_
          refine g_iadd hx hb dL_same_685 (nI_add _ _) ?_
          refine lv_istore (lv' := [(26, .int (nI ((dSm (rK cf cents grams lc lg pr) (sRate cents grams) (sBase lc lg pr) t (k)) + (dN (sRate cents grams (t * 48 + k * 4 + 0 + 0)) (sBase lc lg pr (t * 48 + k * 4 + 0 + 0)) (rK cf cents grams lc lg pr (t * 48 + k * 4 + 0 + 0)) + dN (sRate cents grams (t * 48 + k * 4 + 0 + 1)) (sBase lc lg pr (t * 48 + k * 4 + 0 + 1)) (rK cf cents grams lc lg pr (t * 48 + k * 4 + 0 + 1)) + dN (sRate cents grams (t * 48 + k * 4 + 0 + 3)) (sBase lc lg pr (t * 48 + k * 4 + 0 + 3)) (rK cf cents grams lc lg pr (t * 48 + k * 4 + 0 + 3)))))), (0, .ref (ad 1)), (1, .int (yv)), (2, .ref (ad 30)), (3, .ref (ad 31)), (4, .ref (ad 32)), (5, .ref (ad 33)), (6, .ref (ad 34)), (7, .ref (ad 35)), (8, .ref (ad 36)), (9, .ref (ad 37)), (10, .ref (ad 40)), (11, .ref (ad 41)), (12, .int (nI (1))), (13, .int (nI (t))), (14, .int (nI (kd))), (15, .int (nI (g))), (16, .double (drF shr grp t (4))), (18, .double (mxF grp t (4))), (20, .double (mnF grp t (4))), (22, .double ((coF grp t (mxF grp t 4) (mnF grp t 4) (4)).2.2)), (24, .int (gb ((coF grp t (mxF grp t 4) (mnF grp t 4) (4)).1))), (25, .int (gb ((coF grp t (mxF grp t 4) (mnF grp t 4) (4)).2.1))), (27, .int (nI (k)))]) hx hb dL_same_686 hl (by decide) rfl (fun ls hl => ?_)
          refine lv_iload_n hx hb dL_same_688 rfl (lv_at hl 2 rfl) ?_
          refine lv_iconst (v := nI 4) hx hb dL_same_689 (by decide) ?_
          refine g_ishr hx hb dL_same_690 rfl ?_
          refine lv_iconst (v := nI 3) hx hb dL_same_691 (by decide) ?_
          refine gc_S_i (As := [.int ((yv >>> (nI 4 &&& 31))), .int (nI (3))]) (rest := []) (c_L_low l (by decide) (by decide)) ⟨hx, hb, hml, hown, hts⟩ (va_cwS 2 hts gL_same_L_low rfl rfl rfl (by decide +kernel) ⟨Nat.le_of_ble_eq_true rfl, Nat.le_of_ble_eq_true rfl⟩) hE hP hD hS hA rfl rfl hl.1 (Nat.le_of_ble_eq_true rfl) dL_same_692 ⟨Nat.le_of_ble_eq_true rfl, Nat.le_of_ble_eq_true rfl⟩ (fun r_692 u_692 H locs hP hD hS q_692 => ?_)
          obtain ⟨oj, hoj, e_oj⟩ : ∃ z, z < 3 ∧ lowN (yv >>> (nI 4 &&& 31)) % 3 = z := ⟨_, Nat.mod_lt _ (by omega), rfl⟩
          have q9 := q_692.trans (congrArg nI e_oj)
          subst q9
          refine lv_istore (lv' := [(28, .int (nI (oj))), (26, .int (nI ((dSm (rK cf cents grams lc lg pr) (sRate cents grams) (sBase lc lg pr) t (k)) + (dN (sRate cents grams (t * 48 + k * 4 + 0 + 0)) (sBase lc lg pr (t * 48 + k * 4 + 0 + 0)) (rK cf cents grams lc lg pr (t * 48 + k * 4 + 0 + 0)) + dN (sRate cents grams (t * 48 + k * 4 + 0 + 1)) (sBase lc lg pr (t * 48 + k * 4 + 0 + 1)) (rK cf cents grams lc lg pr (t * 48 + k * 4 + 0 + 1)) + dN (sRate cents grams (t * 48 + k * 4 + 0 + 3)) (sBase lc lg pr (t * 48 + k * 4 + 0 + 3)) (rK cf cents grams lc lg pr (t * 48 + k * 4 + 0 + 3)))))), (0, .ref (ad 1)), (1, .int (yv)), (2, .ref (ad 30)), (3, .ref (ad 31)), (4, .ref (ad 32)), (5, .ref (ad 33)), (6, .ref (ad 34)), (7, .ref (ad 35)), (8, .ref (ad 36)), (9, .ref (ad 37)), (10, .ref (ad 40)), (11, .ref (ad 41)), (12, .int (nI (1))), (13, .int (nI (t))), (14, .int (nI (kd))), (15, .int (nI (g))), (16, .double (drF shr grp t (4))), (18, .double (mxF grp t (4))), (20, .double (mnF grp t (4))), (22, .double ((coF grp t (mxF grp t 4) (mnF grp t 4) (4)).2.2)), (24, .int (gb ((coF grp t (mxF grp t 4) (mnF grp t 4) (4)).1))), (25, .int (gb ((coF grp t (mxF grp t 4) (mnF grp t 4) (4)).2.1))), (27, .int (nI (k)))]) hx hb dL_same_695 hl (by decide) rfl (fun ls hl => ?_)
          refine lv_aload_n hx hb dL_same_697 rfl (lv_at hl 2 rfl) ?_
          refine lv_iload hx hb dL_same_698 (lv_at hl 24 rfl) ?_
          refine lv_iload hx hb dL_same_700 (lv_at hl 15 rfl) ?_
          refine gc_V_d (As := [.int (nI (k)), .int (nI (t))]) (rest := []) (q_relative l hW hp hj_k ht) ⟨hx, hb, hml, hown, hts⟩ (cwV 2 hts gL_same_X6_relative rfl rfl rfl (by decide +kernel) ⟨Nat.le_of_ble_eq_true rfl, Nat.le_of_ble_eq_true rfl⟩) hE hP hD hS hA _ f_off rfl rfl rfl rfl hl.1 (Nat.le_of_ble_eq_true rfl) dL_same_702 ⟨Nat.le_of_ble_eq_true rfl, Nat.le_of_ble_eq_true rfl⟩ (fun r_702 u_702 H locs hP hD hS q_702 => ?_)
          obtain ⟨q9, hW⟩ := q_702
          subst q9
          obtain ⟨fs9, f_off⟩ := sw_off hW
          have f_zi := sw_zi hW
          have f_zc := sw_zc hW
          have f_zg := sw_zg hW
          have f_zf := sw_zf hW
          have f_zn := sw_zn hW
          have f_zl := sw_zl hW
          have f_zr := sw_zr hW
          have f_ze := sw_ze hW
          have f_zw := sw_zw hW
          have f_zq := sw_zq hW
          refine lv_iload hx hb dL_same_705 (lv_at hl 24 rfl) ?_
          refine lv_iload hx hb dL_same_707 (lv_at hl 15 rfl) ?_
          refine lv_iconst (v := nI 3) hx hb dL_same_709 (by decide) ?_
          refine lv_iconst (v := nI 0) hx hb dL_same_710 (by decide) ?_
          refine lv_aload_n hx hb dL_same_711 rfl (lv_at hl 4 rfl) ?_
          refine lv_aload_n hx hb dL_same_712 rfl (lv_at hl 5 rfl) ?_
          refine lv_aload hx hb dL_same_713 (lv_at hl 6 rfl) ?_
          refine lv_aload hx hb dL_same_715 (lv_at hl 7 rfl) ?_
          refine lv_aload hx hb dL_same_717 (lv_at hl 8 rfl) ?_
          refine lv_aload hx hb dL_same_719 (lv_at hl 9 rfl) ?_
          refine lv_aload hx hb dL_same_721 (lv_at hl 10 rfl) ?_
          refine gc_S_d (As := [.int (nI (k)), .int (nI (t)), .int (nI (3)), .int (gb (false)), .ref (ad 30), .ref (ad 31), .ref (ad 32), .ref (ad 33), .ref (ad 34), .ref (ad 35), .ref (ad 36)]) (rest := [.double (rel (t * 12 + k))]) (c_L_goes l f_zi f_zc f_zg f_zf f_zn f_zl f_zr b_zi b_zc b_zg b_zf b_zn b_zl b_zr (mn := M k) (T := nw) (M := (rK cf cents grams lc lg pr)) (o := (sRate cents grams)) (b := (sBase lc lg pr)) (pr := pr) (by omega) ht l1.2.2 (by decide) (l2 k hj_k).2.1 (l2 k hj_k).2.2 (fun t9 ht9 => (l3 k hj_k t9 ht9).1)) ⟨hx, hb, hml, hown, hts⟩ (va_cwS 11 hts gL_same_L_goes rfl rfl rfl (by decide +kernel) ⟨Nat.le_of_ble_eq_true rfl, Nat.le_of_ble_eq_true rfl⟩) hE hP hD hS hA rfl rfl hl.1 (Nat.le_of_ble_eq_true rfl) dL_same_723 ⟨Nat.le_of_ble_eq_true rfl, Nat.le_of_ble_eq_true rfl⟩ (fun r_723 u_723 H locs hP hD hS q_723 => ?_)
          have q9 := q_723.trans (gV_3.trans (l3 k hj_k t ht).2)
          subst q9
          refine g_dcmpl_ne (tgt := 884) hx hb dL_same_726 dL_same_727 (by decide) (fun c_726 => absurd c_726 (fun z => z (Deq_NF ((hB t ht).2.1 k (by omega)).nf))) (fun c_726 => ?_)
          refine lv_aload_n hx hb dL_same_730 rfl (lv_at hl 2 rfl) ?_
          refine lv_iload hx hb dL_same_731 (lv_at hl 24 rfl) ?_
          refine lv_iload hx hb dL_same_733 (lv_at hl 15 rfl) ?_
          refine gc_V_d (As := [.int (nI (k)), .int (nI (t))]) (rest := []) (q_bounce l hW hp hj_k ht) ⟨hx, hb, hml, hown, hts⟩ (cwV 2 hts gL_same_X6_bounce rfl rfl rfl (by decide +kernel) ⟨Nat.le_of_ble_eq_true rfl, Nat.le_of_ble_eq_true rfl⟩) hE hP hD hS hA _ f_off rfl rfl rfl rfl hl.1 (Nat.le_of_ble_eq_true rfl) dL_same_735 ⟨Nat.le_of_ble_eq_true rfl, Nat.le_of_ble_eq_true rfl⟩ (fun r_735 u_735 H locs hP hD hS q_735 => ?_)
          obtain ⟨q9, hW⟩ := q_735
          subst q9
          obtain ⟨fs9, f_off⟩ := sw_off hW
          have f_zi := sw_zi hW
          have f_zc := sw_zc hW
          have f_zg := sw_zg hW
          have f_zf := sw_zf hW
          have f_zn := sw_zn hW
          have f_zl := sw_zl hW
          have f_zr := sw_zr hW
          have f_ze := sw_ze hW
          have f_zw := sw_zw hW
          have f_zq := sw_zq hW
          refine lv_iload hx hb dL_same_738 (lv_at hl 24 rfl) ?_
          refine lv_iload hx hb dL_same_740 (lv_at hl 15 rfl) ?_
          refine lv_iconst (v := nI 4) hx hb dL_same_742 (by decide) ?_
          refine lv_iconst (v := nI 0) hx hb dL_same_743 (by decide) ?_
          refine lv_aload_n hx hb dL_same_744 rfl (lv_at hl 4 rfl) ?_
          refine lv_aload_n hx hb dL_same_745 rfl (lv_at hl 5 rfl) ?_
          refine lv_aload hx hb dL_same_746 (lv_at hl 6 rfl) ?_
          refine lv_aload hx hb dL_same_748 (lv_at hl 7 rfl) ?_
          refine lv_aload hx hb dL_same_750 (lv_at hl 8 rfl) ?_
          refine lv_aload hx hb dL_same_752 (lv_at hl 9 rfl) ?_
          refine lv_aload hx hb dL_same_754 (lv_at hl 10 rfl) ?_
          refine gc_S_d (As := [.int (nI (k)), .int (nI (t)), .int (nI (4)), .int (gb (false)), .ref (ad 30), .ref (ad 31), .ref (ad 32), .ref (ad 33), .ref (ad 34), .ref (ad 35), .ref (ad 36)]) (rest := [.double (FP.dmul (rel (t * 12 + k)) (sMean (M k) (rK cf cents grams lc lg pr) (sBase lc lg pr) (sRate cents grams) (t * 48 + k * 4 + 0)))]) (c_L_goes l f_zi f_zc f_zg f_zf f_zn f_zl f_zr b_zi b_zc b_zg b_zf b_zn b_zl b_zr (mn := M k) (T := nw) (M := (rK cf cents grams lc lg pr)) (o := (sRate cents grams)) (b := (sBase lc lg pr)) (pr := pr) (by omega) ht l1.2.2 (by decide) (l2 k hj_k).2.1 (l2 k hj_k).2.2 (fun t9 ht9 => (l3 k hj_k t9 ht9).1)) ⟨hx, hb, hml, hown, hts⟩ (va_cwS 11 hts gL_same_L_goes rfl rfl rfl (by decide +kernel) ⟨Nat.le_of_ble_eq_true rfl, Nat.le_of_ble_eq_true rfl⟩) hE hP hD hS hA rfl rfl hl.1 (Nat.le_of_ble_eq_true rfl) dL_same_756 ⟨Nat.le_of_ble_eq_true rfl, Nat.le_of_ble_eq_true rfl⟩ (fun r_756 u_756 H locs hP hD hS q_756 => ?_)
          have q9 := q_756.trans (gV_4.trans (by rw [(l3 k hj_k t ht).2]))
          subst q9
          refine g_dcmpl_ne (tgt := 884) hx hb dL_same_759 dL_same_760 (by decide) (fun c_759 => absurd c_759 (fun z => z (Deq_n64 (by have h9 := (l3 k hj_k t ht).1.2.2.2.2.2.2.2.2.2; rw [(l3 k hj_k t ht).2] at h9; exact h9)))) (fun c_759 => ?_)
          refine lv_aload_n hx hb dL_same_763 rfl (lv_at hl 2 rfl) ?_
          refine lv_iload hx hb dL_same_764 (lv_at hl 24 rfl) ?_
          refine lv_iload hx hb dL_same_766 (lv_at hl 0 rfl) ?_
          refine gc_S_i (As := [.int (nI (oj))]) (rest := [.int (nI (k)), .ref (ad 1)]) (c_L_outlet l hoj) ⟨hx, hb, hml, hown, hts⟩ (va_cwS 1 hts gL_same_L_outlet rfl rfl rfl (by decide +kernel) ⟨Nat.le_of_ble_eq_true rfl, Nat.le_of_ble_eq_true rfl⟩) hE hP hD hS hA rfl rfl hl.1 (Nat.le_of_ble_eq_true rfl) dL_same_768 ⟨Nat.le_of_ble_eq_true rfl, Nat.le_of_ble_eq_true rfl⟩ (fun r_768 u_768 H locs hP hD hS q_768 => ?_)
          subst q_768
          refine lv_iload hx hb dL_same_771 (lv_at hl 15 rfl) ?_
          refine gc_V_d (As := [.int (nI (k)), .int (nI (oo (oj))), .int (nI (t))]) (rest := []) (q_price l hW hp hj_k (oo_lt hoj) ht) ⟨hx, hb, hml, hown, hts⟩ (cwV 3 hts gL_same_X6_price rfl rfl rfl (by decide +kernel) ⟨Nat.le_of_ble_eq_true rfl, Nat.le_of_ble_eq_true rfl⟩) hE hP hD hS hA _ f_off rfl rfl rfl rfl hl.1 (Nat.le_of_ble_eq_true rfl) dL_same_773 ⟨Nat.le_of_ble_eq_true rfl, Nat.le_of_ble_eq_true rfl⟩ (fun r_773 u_773 H locs hP hD hS q_773 => ?_)
          obtain ⟨q9, hW⟩ := q_773
          subst q9
          obtain ⟨fs9, f_off⟩ := sw_off hW
          have f_zi := sw_zi hW
          have f_zc := sw_zc hW
          have f_zg := sw_zg hW
          have f_zf := sw_zf hW
          have f_zn := sw_zn hW
          have f_zl := sw_zl hW
          have f_zr := sw_zr hW
          have f_ze := sw_ze hW
          have f_zw := sw_zw hW
          have f_zq := sw_zq hW
          refine lv_iload hx hb dL_same_776 (lv_at hl 24 rfl) ?_
          refine lv_iload hx hb dL_same_778 (lv_at hl 15 rfl) ?_
          refine lv_iload hx hb dL_same_780 (lv_at hl 0 rfl) ?_
          refine lv_iconst (v := nI 0) hx hb dL_same_782 (by decide) ?_
          refine lv_aload_n hx hb dL_same_783 rfl (lv_at hl 4 rfl) ?_
          refine lv_aload_n hx hb dL_same_784 rfl (lv_at hl 5 rfl) ?_
          refine lv_aload hx hb dL_same_785 (lv_at hl 6 rfl) ?_
          refine lv_aload hx hb dL_same_787 (lv_at hl 7 rfl) ?_
          refine lv_aload hx hb dL_same_789 (lv_at hl 8 rfl) ?_
          refine lv_aload hx hb dL_same_791 (lv_at hl 9 rfl) ?_
          refine lv_aload hx hb dL_same_793 (lv_at hl 10 rfl) ?_
          refine gc_S_d (As := [.int (nI (k)), .int (nI (t)), .int (nI (oj)), .int (gb (false)), .ref (ad 30), .ref (ad 31), .ref (ad 32), .ref (ad 33), .ref (ad 34), .ref (ad 35), .ref (ad 36)]) (rest := [.double (pr (t * 48 + k * 4 + oo oj))]) (c_L_goes l f_zi f_zc f_zg f_zf f_zn f_zl f_zr b_zi b_zc b_zg b_zf b_zn b_zl b_zr (mn := M k) (T := nw) (M := (rK cf cents grams lc lg pr)) (o := (sRate cents grams)) (b := (sBase lc lg pr)) (pr := pr) (by omega) ht l1.2.2 (by omega) (l2 k hj_k).2.1 (l2 k hj_k).2.2 (fun t9 ht9 => (l3 k hj_k t9 ht9).1)) ⟨hx, hb, hml, hown, hts⟩ (va_cwS 11 hts gL_same_L_goes rfl rfl rfl (by decide +kernel) ⟨Nat.le_of_ble_eq_true rfl, Nat.le_of_ble_eq_true rfl⟩) hE hP hD hS hA rfl rfl hl.1 (Nat.le_of_ble_eq_true rfl) dL_same_795 ⟨Nat.le_of_ble_eq_true rfl, Nat.le_of_ble_eq_true rfl⟩ (fun r_795 u_795 H locs hP hD hS q_795 => ?_)
          have q9 := q_795.trans (gV_o hoj)
          subst q9
          refine g_dcmpl_ne (tgt := 884) hx hb dL_same_798 dL_same_799 (by decide) (fun c_798 => absurd c_798 (fun z => z (Deq_NF (RZ.nf ((hB t ht).1 k (by omega) (oo oj) (oo_lt hoj)))))) (fun c_798 => ?_)
          refine lv_aload_n hx hb dL_same_802 rfl (lv_at hl 2 rfl) ?_
          refine lv_iload hx hb dL_same_803 (lv_at hl 24 rfl) ?_
          refine lv_iload hx hb dL_same_805 (lv_at hl 0 rfl) ?_
          refine gc_S_i (As := [.int (nI (oj))]) (rest := [.int (nI (k)), .ref (ad 1)]) (c_L_outlet l hoj) ⟨hx, hb, hml, hown, hts⟩ (va_cwS 1 hts gL_same_L_outlet rfl rfl rfl (by decide +kernel) ⟨Nat.le_of_ble_eq_true rfl, Nat.le_of_ble_eq_true rfl⟩) hE hP hD hS hA rfl rfl hl.1 (Nat.le_of_ble_eq_true rfl) dL_same_807 ⟨Nat.le_of_ble_eq_true rfl, Nat.le_of_ble_eq_true rfl⟩ (fun r_807 u_807 H locs hP hD hS q_807 => ?_)
          subst q_807
          refine lv_iload hx hb dL_same_810 (lv_at hl 15 rfl) ?_
          refine gc_V_i (As := [.int (nI (k)), .int (nI (oo (oj))), .int (nI (t))]) (rest := []) (q_isMatched l hW hp hj_k (oo_lt hoj) ht) ⟨hx, hb, hml, hown, hts⟩ (cwV 3 hts gL_same_X6_isMatched rfl rfl rfl (by decide +kernel) ⟨Nat.le_of_ble_eq_true rfl, Nat.le_of_ble_eq_true rfl⟩) hE hP hD hS hA _ f_off rfl rfl rfl rfl hl.1 (Nat.le_of_ble_eq_true rfl) dL_same_812 ⟨Nat.le_of_ble_eq_true rfl, Nat.le_of_ble_eq_true rfl⟩ (fun r_812 u_812 H locs hP hD hS q_812 => ?_)
          obtain ⟨q9, hW⟩ := q_812
          subst q9
          obtain ⟨fs9, f_off⟩ := sw_off hW
          have f_zi := sw_zi hW
          have f_zc := sw_zc hW
          have f_zg := sw_zg hW
          have f_zf := sw_zf hW
          have f_zn := sw_zn hW
          have f_zl := sw_zl hW
          have f_zr := sw_zr hW
          have f_ze := sw_ze hW
          have f_zw := sw_zw hW
          have f_zq := sw_zq hW
          refine lv_iload hx hb dL_same_815 (lv_at hl 24 rfl) ?_
          refine lv_iload hx hb dL_same_817 (lv_at hl 15 rfl) ?_
          refine lv_iconst (v := nI 5) hx hb dL_same_819 (by decide) ?_
          refine lv_iload hx hb dL_same_820 (lv_at hl 0 rfl) ?_
          refine g_iadd hx hb dL_same_822 (nI_add _ _) ?_
          refine lv_iconst (v := nI 0) hx hb dL_same_823 (by decide) ?_
          refine lv_aload_n hx hb dL_same_824 rfl (lv_at hl 4 rfl) ?_
          refine lv_aload_n hx hb dL_same_825 rfl (lv_at hl 5 rfl) ?_
          refine lv_aload hx hb dL_same_826 (lv_at hl 6 rfl) ?_
          refine lv_aload hx hb dL_same_828 (lv_at hl 7 rfl) ?_
          refine lv_aload hx hb dL_same_830 (lv_at hl 8 rfl) ?_
          refine lv_aload hx hb dL_same_832 (lv_at hl 9 rfl) ?_
          refine lv_aload hx hb dL_same_834 (lv_at hl 10 rfl) ?_
          refine gc_S_d (As := [.int (nI (k)), .int (nI (t)), .int (nI (5 + oj)), .int (gb (false)), .ref (ad 30), .ref (ad 31), .ref (ad 32), .ref (ad 33), .ref (ad 34), .ref (ad 35), .ref (ad 36)]) (rest := [.int (gb (rK cf cents grams lc lg pr (t * 48 + k * 4 + oo oj)))]) (c_L_goes l f_zi f_zc f_zg f_zf f_zn f_zl f_zr b_zi b_zc b_zg b_zf b_zn b_zl b_zr (mn := M k) (T := nw) (M := (rK cf cents grams lc lg pr)) (o := (sRate cents grams)) (b := (sBase lc lg pr)) (pr := pr) (by omega) ht l1.2.2 (by omega) (l2 k hj_k).2.1 (l2 k hj_k).2.2 (fun t9 ht9 => (l3 k hj_k t9 ht9).1)) ⟨hx, hb, hml, hown, hts⟩ (va_cwS 11 hts gL_same_L_goes rfl rfl rfl (by decide +kernel) ⟨Nat.le_of_ble_eq_true rfl, Nat.le_of_ble_eq_true rfl⟩) hE hP hD hS hA rfl rfl hl.1 (Nat.le_of_ble_eq_true rfl) dL_same_836 ⟨Nat.le_of_ble_eq_true rfl, Nat.le_of_ble_eq_true rfl⟩ (fun r_836 u_836 H locs hP hD hS q_836 => ?_)
          have q9 := q_836.trans (gV_is hoj)
          subst q9
          refine g_reg (J := 851) (st1 := [.int (gb (rK cf cents grams lc lg pr (t * 48 + k * 4 + oo oj))), .int (gb (rK cf cents grams lc lg pr (t * 48 + k * 4 + oo oj)))]) hP hD hS (fun K_851 => ?_) (fun H locs hP hD hS => ?_)
          · refine lv_ldc2d (v := 4602678819172646912) hx hb hown (hts (.constantDouble RL 81 (4602678819172646912)) (by decide +kernel)) dL_same_839 ?_
            refine g_dcmpl_le (tgt := 850) hx hb dL_same_842 dL_same_843 (by decide) (fun c_842 => ?_) (fun c_842 => ?_)
            · refine lv_iconst (v := nI 0) hx hb dL_same_850 (by decide) ?_
              refine g_iv (v' := (gb (rK cf cents grams lc lg pr (t * 48 + k * 4 + oo oj)))) ((congrArg gb (isv_f c_842).symm)) ?_
              exact K_851 _ _ hP hD hS
            · refine lv_iconst (v := nI 1) hx hb dL_same_846 (by decide) ?_
              refine lv_goto (tgt := 851) hx hb dL_same_847 (by decide) ?_
              refine g_iv (v' := (gb (rK cf cents grams lc lg pr (t * 48 + k * 4 + oo oj)))) ((congrArg gb (isv_t c_842).symm)) ?_
              exact K_851 _ _ hP hD hS
          refine lv_icmp_ne (tgt := 884) hx hb dL_same_851 (by decide) (fun c_851 => absurd c_851 (fun z => z rfl)) (fun c_851 => ?_)
          refine lv_aload_n hx hb dL_same_854 rfl (lv_at hl 2 rfl) ?_
          refine lv_iload hx hb dL_same_855 (lv_at hl 24 rfl) ?_
          refine lv_iconst (v := nI 2) hx hb dL_same_857 (by decide) ?_
          refine lv_iload hx hb dL_same_858 (lv_at hl 15 rfl) ?_
          refine gc_V_d (As := [.int (nI (k)), .int (nI (2)), .int (nI (t))]) (rest := []) (q_price l hW hp hj_k (by decide) ht) ⟨hx, hb, hml, hown, hts⟩ (cwV 3 hts gL_same_X6_price rfl rfl rfl (by decide +kernel) ⟨Nat.le_of_ble_eq_true rfl, Nat.le_of_ble_eq_true rfl⟩) hE hP hD hS hA _ f_off rfl rfl rfl rfl hl.1 (Nat.le_of_ble_eq_true rfl) dL_same_860 ⟨Nat.le_of_ble_eq_true rfl, Nat.le_of_ble_eq_true rfl⟩ (fun r_860 u_860 H locs hP hD hS q_860 => ?_)
          obtain ⟨q9, hW⟩ := q_860
          subst q9
          obtain ⟨fs9, f_off⟩ := sw_off hW
          have f_zi := sw_zi hW
          have f_zc := sw_zc hW
          have f_zg := sw_zg hW
          have f_zf := sw_zf hW
          have f_zn := sw_zn hW
          have f_zl := sw_zl hW
          have f_zr := sw_zr hW
          have f_ze := sw_ze hW
          have f_zw := sw_zw hW
          have f_zq := sw_zq hW
          refine g_dconst0 hx hb dL_same_863 ?_
          refine g_dcmpl_ne (tgt := 884) hx hb dL_same_864 dL_same_865 (by decide) (fun c_864 => absurd c_864 (fun z => z (by have h9 := pr_2 hser hz2 t ht k (by omega); exact (show Deq (pr (t * 48 + k * 4 + 0 + 2)) 0 by rw [h9]; exact dz0)))) (fun c_864 => ?_)
          refine lv_aload_n hx hb dL_same_868 rfl (lv_at hl 2 rfl) ?_
          refine lv_iload hx hb dL_same_869 (lv_at hl 24 rfl) ?_
          refine lv_iconst (v := nI 2) hx hb dL_same_871 (by decide) ?_
          refine lv_iload hx hb dL_same_872 (lv_at hl 15 rfl) ?_
          refine gc_V_i (As := [.int (nI (k)), .int (nI (2)), .int (nI (t))]) (rest := []) (q_isMatched l hW hp hj_k (by decide) ht) ⟨hx, hb, hml, hown, hts⟩ (cwV 3 hts gL_same_X6_isMatched rfl rfl rfl (by decide +kernel) ⟨Nat.le_of_ble_eq_true rfl, Nat.le_of_ble_eq_true rfl⟩) hE hP hD hS hA _ f_off rfl rfl rfl rfl hl.1 (Nat.le_of_ble_eq_true rfl) dL_same_874 ⟨Nat.le_of_ble_eq_true rfl, Nat.le_of_ble_eq_true rfl⟩ (fun r_874 u_874 H locs hP hD hS q_874 => ?_)
          obtain ⟨q9, hW⟩ := q_874
          subst q9
          obtain ⟨fs9, f_off⟩ := sw_off hW
          have f_zi := sw_zi hW
          have f_zc := sw_zc hW
          have f_zg := sw_zg hW
          have f_zf := sw_zf hW
          have f_zn := sw_zn hW
          have f_zl := sw_zl hW
          have f_zr := sw_zr hW
          have f_ze := sw_ze hW
          have f_zw := sw_zw hW
          have f_zq := sw_zq hW
          refine g_bif_ne (tgt := 884) hx hb dL_same_877 (by decide) (fun c_877 => absurd c_877 (fun z => absurd (z.symm.trans (l3 k hj_k t ht).1.2.2.2.1) (by decide))) (fun c_877 => ?_)
          refine lv_iconst (v := nI 1) hx hb dL_same_880 (by decide) ?_
          refine lv_goto (tgt := 885) hx hb dL_same_881 (by decide) ?_
          refine lv_istore (lv' := [(12, .int (nI (1))), (28, .int (nI (oj))), (26, .int (nI ((dSm (rK cf cents grams lc lg pr) (sRate cents grams) (sBase lc lg pr) t (k)) + (dN (sRate cents grams (t * 48 + k * 4 + 0 + 0)) (sBase lc lg pr (t * 48 + k * 4 + 0 + 0)) (rK cf cents grams lc lg pr (t * 48 + k * 4 + 0 + 0)) + dN (sRate cents grams (t * 48 + k * 4 + 0 + 1)) (sBase lc lg pr (t * 48 + k * 4 + 0 + 1)) (rK cf cents grams lc lg pr (t * 48 + k * 4 + 0 + 1)) + dN (sRate cents grams (t * 48 + k * 4 + 0 + 3)) (sBase lc lg pr (t * 48 + k * 4 + 0 + 3)) (rK cf cents grams lc lg pr (t * 48 + k * 4 + 0 + 3)))))), (0, .ref (ad 1)), (1, .int (yv)), (2, .ref (ad 30)), (3, .ref (ad 31)), (4, .ref (ad 32)), (5, .ref (ad 33)), (6, .ref (ad 34)), (7, .ref (ad 35)), (8, .ref (ad 36)), (9, .ref (ad 37)), (10, .ref (ad 40)), (11, .ref (ad 41)), (13, .int (nI (t))), (14, .int (nI (kd))), (15, .int (nI (g))), (16, .double (drF shr grp t (4))), (18, .double (mxF grp t (4))), (20, .double (mnF grp t (4))), (22, .double ((coF grp t (mxF grp t 4) (mnF grp t 4) (4)).2.2)), (24, .int (gb ((coF grp t (mxF grp t 4) (mnF grp t 4) (4)).1))), (25, .int (gb ((coF grp t (mxF grp t 4) (mnF grp t 4) (4)).2.1))), (27, .int (nI (k)))]) hx hb dL_same_885 hl (by decide) rfl (fun ls hl => ?_)
          refine lv_iinc (v := nI (k + 1)) (lv' := [(27, .int (nI (k + 1))), (12, .int (nI (1))), (28, .int (nI (oj))), (26, .int (nI ((dSm (rK cf cents grams lc lg pr) (sRate cents grams) (sBase lc lg pr) t (k)) + (dN (sRate cents grams (t * 48 + k * 4 + 0 + 0)) (sBase lc lg pr (t * 48 + k * 4 + 0 + 0)) (rK cf cents grams lc lg pr (t * 48 + k * 4 + 0 + 0)) + dN (sRate cents grams (t * 48 + k * 4 + 0 + 1)) (sBase lc lg pr (t * 48 + k * 4 + 0 + 1)) (rK cf cents grams lc lg pr (t * 48 + k * 4 + 0 + 1)) + dN (sRate cents grams (t * 48 + k * 4 + 0 + 3)) (sBase lc lg pr (t * 48 + k * 4 + 0 + 3)) (rK cf cents grams lc lg pr (t * 48 + k * 4 + 0 + 3)))))), (0, .ref (ad 1)), (1, .int (yv)), (2, .ref (ad 30)), (3, .ref (ad 31)), (4, .ref (ad 32)), (5, .ref (ad 33)), (6, .ref (ad 34)), (7, .ref (ad 35)), (8, .ref (ad 36)), (9, .ref (ad 37)), (10, .ref (ad 40)), (11, .ref (ad 41)), (13, .int (nI (t))), (14, .int (nI (kd))), (15, .int (nI (g))), (16, .double (drF shr grp t (4))), (18, .double (mxF grp t (4))), (20, .double (mnF grp t (4))), (22, .double ((coF grp t (mxF grp t 4) (mnF grp t 4) (4)).2.2)), (24, .int (gb ((coF grp t (mxF grp t 4) (mnF grp t 4) (4)).1))), (25, .int (gb ((coF grp t (mxF grp t 4) (mnF grp t 4) (4)).2.1)))]) hx hb dL_same_887 hl (k := 24) rfl (nI_add _ 1) (by decide) rfl (fun ls hl => ?_)
          refine lv_goto (tgt := 646) hx hb dL_same_890 (by decide) ?_
          exact ih_k _ hW H locs ls hP hD hS (lv_sub hl [4, 5, 6, 7, 8, 9, 10, 11, 12, 13, 14, 15, 1, 16, 17, 18, 19, 20, 21, 22, 23, 24, 3, 0] rfl)
      · intro k hj_k ih_k H locs ls hP hD hS hl
        have hP : gvP D vwCl u_263 H := hP
        have hD : gvD A u_263 := hD
        have hl : lv_has ls 31 [(0, .ref (ad 1)), (1, .int (yv)), (2, .ref (ad 30)), (3, .ref (ad 31)), (4, .ref (ad 32)), (5, .ref (ad 33)), (6, .ref (ad 34)), (7, .ref (ad 35)), (8, .ref (ad 36)), (9, .ref (ad 37)), (10, .ref (ad 40)), (11, .ref (ad 41)), (12, .int (nI (1))), (13, .int (nI (t))), (14, .int (nI (kd))), (15, .int (nI (g))), (16, .double (drF shr grp t (4))), (18, .double (mxF grp t (4))), (20, .double (mnF grp t (4))), (22, .double ((coF grp t (mxF grp t 4) (mnF grp t 4) (k)).2.2)), (24, .int (gb ((coF grp t (mxF grp t 4) (mnF grp t 4) (k)).1))), (25, .int (gb ((coF grp t (mxF grp t 4) (mnF grp t 4) (k)).2.1))), (26, .int (nI (k)))] := hl
        refine lv_iload hx hb dL_same_459 (lv_at hl 22 rfl) ?_
        refine lv_iconst (v := nI 4) hx hb dL_same_461 (by decide) ?_
        refine g_icmp_ge (tgt := 596) hx hb (by omega) (by omega) dL_same_462 (by decide) (fun c_462 => absurd c_462 (by omega)) (fun c_462 => ?_)
        refine lv_iload hx hb dL_same_465 (lv_at hl 22 rfl) ?_
        refine lv_iload hx hb dL_same_467 (lv_at hl 13 rfl) ?_
        refine lv_iconst (v := nI 0) hx hb dL_same_469 (by decide) ?_
        refine lv_aload_n hx hb dL_same_470 rfl (lv_at hl 2 rfl) ?_
        refine lv_aload_n hx hb dL_same_471 rfl (lv_at hl 3 rfl) ?_
        refine lv_aload hx hb dL_same_472 (lv_at hl 4 rfl) ?_
        refine lv_aload hx hb dL_same_474 (lv_at hl 5 rfl) ?_
        refine lv_aload hx hb dL_same_476 (lv_at hl 6 rfl) ?_
        refine lv_aload hx hb dL_same_478 (lv_at hl 7 rfl) ?_
        refine lv_aload hx hb dL_same_480 (lv_at hl 8 rfl) ?_
        refine lv_aload hx hb dL_same_482 (lv_at hl 11 rfl) ?_
        refine gc_S_d (As := [.int (nI (k)), .int (nI (t)), .int (gb (false)), .ref (ad 30), .ref (ad 31), .ref (ad 32), .ref (ad 33), .ref (ad 34), .ref (ad 35), .ref (ad 36), .ref (ad 41)]) (rest := []) (c_L_group l f_zi f_zc f_zg f_zf f_zn f_zl f_zr f_zq b_zi b_zc b_zg b_zf b_zn b_zl b_zr b_zq (n := n) (T := nw) (MM := M) (G := G) (M := (rK cf cents grams lc lg pr)) (o := (sRate cents grams)) (b := (sBase lc lg pr)) (pr := pr) (rel := rel) hj_k ht l1.2.2 l1.1 l1.2.1 (fun k9 hk9 => ⟨(l2 k9 hk9).1, (l2 k9 hk9).2.1, (l2 k9 hk9).2.2, (l3 k9 hk9 t ht).2⟩) (fun k9 hk9 t9 ht9 => (l3 k9 hk9 t9 ht9).1) (l4 t ht k hj_k).1) ⟨hx, hb, hml, hown, hts⟩ (va_cwS 11 hts gL_same_L_group rfl rfl rfl (by decide +kernel) ⟨Nat.le_of_ble_eq_true rfl, Nat.le_of_ble_eq_true rfl⟩) hE hP hD hS hA rfl rfl hl.1 (Nat.le_of_ble_eq_true rfl) dL_same_484 ⟨Nat.le_of_ble_eq_true rfl, Nat.le_of_ble_eq_true rfl⟩ (fun r_484 u_484 H locs hP hD hS q_484 => ?_)
        have q9 := q_484.trans (l4 t ht k hj_k).2
        subst q9
        refine lv_dstore (lv' := [(27, .double (grp (t * 4 + k))), (0, .ref (ad 1)), (1, .int (yv)), (2, .ref (ad 30)), (3, .ref (ad 31)), (4, .ref (ad 32)), (5, .ref (ad 33)), (6, .ref (ad 34)), (7, .ref (ad 35)), (8, .ref (ad 36)), (9, .ref (ad 37)), (10, .ref (ad 40)), (11, .ref (ad 41)), (12, .int (nI (1))), (13, .int (nI (t))), (14, .int (nI (kd))), (15, .int (nI (g))), (16, .double (drF shr grp t (4))), (18, .double (mxF grp t (4))), (20, .double (mnF grp t (4))), (22, .double ((coF grp t (mxF grp t 4) (mnF grp t 4) (k)).2.2)), (24, .int (gb ((coF grp t (mxF grp t 4) (mnF grp t 4) (k)).1))), (25, .int (gb ((coF grp t (mxF grp t 4) (mnF grp t 4) (k)).2.1))), (26, .int (nI (k)))]) hx hb dL_same_487 hl (by decide) rfl (fun ls hl => ?_)
        refine g_reg (J := 507) (st1 := [.int (gb (coO (grp (t * 4 + k)) (mxF grp t 4) (coF grp t (mxF grp t 4) (mnF grp t 4) k).1))]) hP hD hS (fun K_507 => ?_) (fun H locs hP hD hS => ?_)
        · refine lv_dload hx hb dL_same_489 (lv_at hl 0 rfl) ?_
          refine lv_dload hx hb dL_same_491 (lv_at hl 18 rfl) ?_
          refine g_dcmpl_ne (tgt := 506) hx hb dL_same_493 dL_same_494 (by decide) (fun c_493 => ?_) (fun c_493 => ?_)
          · refine lv_iconst (v := nI 0) hx hb dL_same_506 (by decide) ?_
            refine g_iv (v' := (gb (coO (grp (t * 4 + k)) (mxF grp t 4) (coF grp t (mxF grp t 4) (mnF grp t 4) k).1))) ((congrArg gb (show false = _ from (decide_eq_false (fun z => c_493 z.1)).symm))) ?_
            exact K_507 _ _ hP hD hS
          · refine lv_iload hx hb dL_same_497 (lv_at hl 21 rfl) ?_
            refine g_bif_ne (tgt := 506) hx hb dL_same_499 (by decide) (fun c_499 => ?_) (fun c_499 => ?_)
            · refine lv_iconst (v := nI 0) hx hb dL_same_506 (by decide) ?_
              refine g_iv (v' := (gb (coO (grp (t * 4 + k)) (mxF grp t 4) (coF grp t (mxF grp t 4) (mnF grp t 4) k).1))) ((congrArg gb (show false = _ from (decide_eq_false (fun z => by have := z.2; rw [c_499] at this; cases this)).symm))) ?_
              exact K_507 _ _ hP hD hS
            · refine lv_iconst (v := nI 1) hx hb dL_same_502 (by decide) ?_
              refine lv_goto (tgt := 507) hx hb dL_same_503 (by decide) ?_
              refine g_iv (v' := (gb (coO (grp (t * 4 + k)) (mxF grp t 4) (coF grp t (mxF grp t 4) (mnF grp t 4) k).1))) ((congrArg gb (show true = _ from (decide_eq_true ⟨c_493, c_499⟩).symm))) ?_
              exact K_507 _ _ hP hD hS
        refine lv_istore (lv' := [(29, .int (gb (coO (grp (t * 4 + k)) (mxF grp t 4) (coF grp t (mxF grp t 4) (mnF grp t 4) k).1))), (27, .double (grp (t * 4 + k))), (0, .ref (ad 1)), (1, .int (yv)), (2, .ref (ad 30)), (3, .ref (ad 31)), (4, .ref (ad 32)), (5, .ref (ad 33)), (6, .ref (ad 34)), (7, .ref (ad 35)), (8, .ref (ad 36)), (9, .ref (ad 37)), (10, .ref (ad 40)), (11, .ref (ad 41)), (12, .int (nI (1))), (13, .int (nI (t))), (14, .int (nI (kd))), (15, .int (nI (g))), (16, .double (drF shr grp t (4))), (18, .double (mxF grp t (4))), (20, .double (mnF grp t (4))), (22, .double ((coF grp t (mxF grp t 4) (mnF grp t 4) (k)).2.2)), (24, .int (gb ((coF grp t (mxF grp t 4) (mnF grp t 4) (k)).1))), (25, .int (gb ((coF grp t (mxF grp t 4) (mnF grp t 4) (k)).2.1))), (26, .int (nI (k)))]) hx hb dL_same_507 hl (by decide) rfl (fun ls hl => ?_)
        refine g_reg (J := 524) (st1 := [.int (gb ((coF grp t (mxF grp t 4) (mnF grp t 4) (k + 1)).1))]) hP hD hS (fun K_524 => ?_) (fun H locs hP hD hS => ?_)
        · refine lv_iload hx hb dL_same_509 (lv_at hl 22 rfl) ?_
          refine g_bif_ne (tgt := 519) hx hb dL_same_511 (by decide) (fun c_511 => ?_) (fun c_511 => ?_)
          · refine lv_iconst (v := nI 1) hx hb dL_same_519 (by decide) ?_
            refine lv_goto (tgt := 524) hx hb dL_same_520 (by decide) ?_
            refine g_iv (v' := (gb ((coF grp t (mxF grp t 4) (mnF grp t 4) (k + 1)).1))) ((congrArg gb (show true = ((coF grp t (mxF grp t 4) (mnF grp t 4) k).1 || coO (grp (t * 4 + k)) (mxF grp t 4) (coF grp t (mxF grp t 4) (mnF grp t 4) k).1) by rw [c_511]; rfl))) ?_
            exact K_524 _ _ hP hD hS
          · refine lv_iload hx hb dL_same_514 (lv_at hl 0 rfl) ?_
            refine g_bif_eq (tgt := 523) hx hb dL_same_516 (by decide) (fun c_516 => ?_) (fun c_516 => ?_)
            · refine lv_iconst (v := nI 0) hx hb dL_same_523 (by decide) ?_
              refine g_iv (v' := (gb ((coF grp t (mxF grp t 4) (mnF grp t 4) (k + 1)).1))) ((congrArg gb (show false = ((coF grp t (mxF grp t 4) (mnF grp t 4) k).1 || coO (grp (t * 4 + k)) (mxF grp t 4) (coF grp t (mxF grp t 4) (mnF grp t 4) k).1) by rw [c_516, c_511]; rfl))) ?_
              exact K_524 _ _ hP hD hS
            · refine lv_iconst (v := nI 1) hx hb dL_same_519 (by decide) ?_
              refine lv_goto (tgt := 524) hx hb dL_same_520 (by decide) ?_
              refine g_iv (v' := (gb ((coF grp t (mxF grp t 4) (mnF grp t 4) (k + 1)).1))) ((congrArg gb (show true = ((coF grp t (mxF grp t 4) (mnF grp t 4) k).1 || coO (grp (t * 4 + k)) (mxF grp t 4) (coF grp t (mxF grp t 4) (mnF grp t 4) k).1) by rw [c_516, c_511]; rfl))) ?_
              exact K_524 _ _ hP hD hS
        refine lv_istore (lv' := [(24, .int (gb ((coF grp t (mxF grp t 4) (mnF grp t 4) (k + 1)).1))), (29, .int (gb (coO (grp (t * 4 + k)) (mxF grp t 4) (coF grp t (mxF grp t 4) (mnF grp t 4) k).1))), (27, .double (grp (t * 4 + k))), (0, .ref (ad 1)), (1, .int (yv)), (2, .ref (ad 30)), (3, .ref (ad 31)), (4, .ref (ad 32)), (5, .ref (ad 33)), (6, .ref (ad 34)), (7, .ref (ad 35)), (8, .ref (ad 36)), (9, .ref (ad 37)), (10, .ref (ad 40)), (11, .ref (ad 41)), (12, .int (nI (1))), (13, .int (nI (t))), (14, .int (nI (kd))), (15, .int (nI (g))), (16, .double (drF shr grp t (4))), (18, .double (mxF grp t (4))), (20, .double (mnF grp t (4))), (22, .double ((coF grp t (mxF grp t 4) (mnF grp t 4) (k)).2.2)), (25, .int (gb ((coF grp t (mxF grp t 4) (mnF grp t 4) (k)).2.1))), (26, .int (nI (k)))]) hx hb dL_same_524 hl (by decide) rfl (fun ls hl => ?_)
        refine g_reg (J := 549) (st1 := [.int (gb (coL (grp (t * 4 + k)) (mnF grp t 4) (coO (grp (t * 4 + k)) (mxF grp t 4) (coF grp t (mxF grp t 4) (mnF grp t 4) k).1) (coF grp t (mxF grp t 4) (mnF grp t 4) k).2.1))]) hP hD hS (fun K_549 => ?_) (fun H locs hP hD hS => ?_)
        · refine lv_iload hx hb dL_same_526 (lv_at hl 1 rfl) ?_
          refine g_bif_ne (tgt := 548) hx hb dL_same_528 (by decide) (fun c_528 => ?_) (fun c_528 => ?_)
          · refine lv_iconst (v := nI 0) hx hb dL_same_548 (by decide) ?_
            refine g_iv (v' := (gb (coL (grp (t * 4 + k)) (mnF grp t 4) (coO (grp (t * 4 + k)) (mxF grp t 4) (coF grp t (mxF grp t 4) (mnF grp t 4) k).1) (coF grp t (mxF grp t 4) (mnF grp t 4) k).2.1))) ((congrArg gb (show false = _ from (decide_eq_false (fun z => by have := z.1; rw [c_528] at this; cases this)).symm))) ?_
            exact K_549 _ _ hP hD hS
          · refine lv_dload hx hb dL_same_531 (lv_at hl 2 rfl) ?_
            refine lv_dload hx hb dL_same_533 (lv_at hl 21 rfl) ?_
            refine g_dcmpl_ne (tgt := 548) hx hb dL_same_535 dL_same_536 (by decide) (fun c_535 => ?_) (fun c_535 => ?_)
            · refine lv_iconst (v := nI 0) hx hb dL_same_548 (by decide) ?_
              refine g_iv (v' := (gb (coL (grp (t * 4 + k)) (mnF grp t 4) (coO (grp (t * 4 + k)) (mxF grp t 4) (coF grp t (mxF grp t 4) (mnF grp t 4) k).1) (coF grp t (mxF grp t 4) (mnF grp t 4) k).2.1))) ((congrArg gb (show false = _ from (decide_eq_false (fun z => c_535 z.2.1)).symm))) ?_
              exact K_549 _ _ hP hD hS
            · refine lv_iload hx hb dL_same_539 (lv_at hl 23 rfl) ?_
              refine g_bif_ne (tgt := 548) hx hb dL_same_541 (by decide) (fun c_541 => ?_) (fun c_541 => ?_)
              · refine lv_iconst (v := nI 0) hx hb dL_same_548 (by decide) ?_
                refine g_iv (v' := (gb (coL (grp (t * 4 + k)) (mnF grp t 4) (coO (grp (t * 4 + k)) (mxF grp t 4) (coF grp t (mxF grp t 4) (mnF grp t 4) k).1) (coF grp t (mxF grp t 4) (mnF grp t 4) k).2.1))) ((congrArg gb (show false = _ from (decide_eq_false (fun z => by have := z.2.2; rw [c_541] at this; cases this)).symm))) ?_
                exact K_549 _ _ hP hD hS
              · refine lv_iconst (v := nI 1) hx hb dL_same_544 (by decide) ?_
                refine lv_goto (tgt := 549) hx hb dL_same_545 (by decide) ?_
                refine g_iv (v' := (gb (coL (grp (t * 4 + k)) (mnF grp t 4) (coO (grp (t * 4 + k)) (mxF grp t 4) (coF grp t (mxF grp t 4) (mnF grp t 4) k).1) (coF grp t (mxF grp t 4) (mnF grp t 4) k).2.1))) ((congrArg gb (show true = _ from (decide_eq_true ⟨c_528, c_535, c_541⟩).symm))) ?_
                exact K_549 _ _ hP hD hS
        refine lv_istore (lv' := [(30, .int (gb (coL (grp (t * 4 + k)) (mnF grp t 4) (coO (grp (t * 4 + k)) (mxF grp t 4) (coF grp t (mxF grp t 4) (mnF grp t 4) k).1) (coF grp t (mxF grp t 4) (mnF grp t 4) k).2.1))), (24, .int (gb ((coF grp t (mxF grp t 4) (mnF grp t 4) (k + 1)).1))), (29, .int (gb (coO (grp (t * 4 + k)) (mxF grp t 4) (coF grp t (mxF grp t 4) (mnF grp t 4) k).1))), (27, .double (grp (t * 4 + k))), (0, .ref (ad 1)), (1, .int (yv)), (2, .ref (ad 30)), (3, .ref (ad 31)), (4, .ref (ad 32)), (5, .ref (ad 33)), (6, .ref (ad 34)), (7, .ref (ad 35)), (8, .ref (ad 36)), (9, .ref (ad 37)), (10, .ref (ad 40)), (11, .ref (ad 41)), (12, .int (nI (1))), (13, .int (nI (t))), (14, .int (nI (kd))), (15, .int (nI (g))), (16, .double (drF shr grp t (4))), (18, .double (mxF grp t (4))), (20, .double (mnF grp t (4))), (22, .double ((coF grp t (mxF grp t 4) (mnF grp t 4) (k)).2.2)), (25, .int (gb ((coF grp t (mxF grp t 4) (mnF grp t 4) (k)).2.1))), (26, .int (nI (k)))]) hx hb dL_same_549 hl (by decide) rfl (fun ls hl => ?_)
        refine g_reg (J := 566) (st1 := [.int (gb ((coF grp t (mxF grp t 4) (mnF grp t 4) (k + 1)).2.1))]) hP hD hS (fun K_566 => ?_) (fun H locs hP hD hS => ?_)
        · refine lv_iload hx hb dL_same_551 (lv_at hl 24 rfl) ?_
          refine g_bif_ne (tgt := 561) hx hb dL_same_553 (by decide) (fun c_553 => ?_) (fun c_553 => ?_)
          · refine lv_iconst (v := nI 1) hx hb dL_same_561 (by decide) ?_
            refine lv_goto (tgt := 566) hx hb dL_same_562 (by decide) ?_
            refine g_iv (v' := (gb ((coF grp t (mxF grp t 4) (mnF grp t 4) (k + 1)).2.1))) ((congrArg gb (show true = ((coF grp t (mxF grp t 4) (mnF grp t 4) k).2.1 || coL (grp (t * 4 + k)) (mnF grp t 4) (coO (grp (t * 4 + k)) (mxF grp t 4) (coF grp t (mxF grp t 4) (mnF grp t 4) k).1) (coF grp t (mxF grp t 4) (mnF grp t 4) k).2.1) by rw [c_553]; rfl))) ?_
            exact K_566 _ _ hP hD hS
          · refine lv_iload hx hb dL_same_556 (lv_at hl 0 rfl) ?_
            refine g_bif_eq (tgt := 565) hx hb dL_same_558 (by decide) (fun c_558 => ?_) (fun c_558 => ?_)
            · refine lv_iconst (v := nI 0) hx hb dL_same_565 (by decide) ?_
              refine g_iv (v' := (gb ((coF grp t (mxF grp t 4) (mnF grp t 4) (k + 1)).2.1))) ((congrArg gb (show false = ((coF grp t (mxF grp t 4) (mnF grp t 4) k).2.1 || coL (grp (t * 4 + k)) (mnF grp t 4) (coO (grp (t * 4 + k)) (mxF grp t 4) (coF grp t (mxF grp t 4) (mnF grp t 4) k).1) (coF grp t (mxF grp t 4) (mnF grp t 4) k).2.1) by rw [c_558, c_553]; rfl))) ?_
              exact K_566 _ _ hP hD hS
            · refine lv_iconst (v := nI 1) hx hb dL_same_561 (by decide) ?_
              refine lv_goto (tgt := 566) hx hb dL_same_562 (by decide) ?_
              refine g_iv (v' := (gb ((coF grp t (mxF grp t 4) (mnF grp t 4) (k + 1)).2.1))) ((congrArg gb (show true = ((coF grp t (mxF grp t 4) (mnF grp t 4) k).2.1 || coL (grp (t * 4 + k)) (mnF grp t 4) (coO (grp (t * 4 + k)) (mxF grp t 4) (coF grp t (mxF grp t 4) (mnF grp t 4) k).1) (coF grp t (mxF grp t 4) (mnF grp t 4) k).2.1) by rw [c_558, c_553]; rfl))) ?_
              exact K_566 _ _ hP hD hS
        refine lv_istore (lv' := [(25, .int (gb ((coF grp t (mxF grp t 4) (mnF grp t 4) (k + 1)).2.1))), (30, .int (gb (coL (grp (t * 4 + k)) (mnF grp t 4) (coO (grp (t * 4 + k)) (mxF grp t 4) (coF grp t (mxF grp t 4) (mnF grp t 4) k).1) (coF grp t (mxF grp t 4) (mnF grp t 4) k).2.1))), (24, .int (gb ((coF grp t (mxF grp t 4) (mnF grp t 4) (k + 1)).1))), (29, .int (gb (coO (grp (t * 4 + k)) (mxF grp t 4) (coF grp t (mxF grp t 4) (mnF grp t 4) k).1))), (27, .double (grp (t * 4 + k))), (0, .ref (ad 1)), (1, .int (yv)), (2, .ref (ad 30)), (3, .ref (ad 31)), (4, .ref (ad 32)), (5, .ref (ad 33)), (6, .ref (ad 34)), (7, .ref (ad 35)), (8, .ref (ad 36)), (9, .ref (ad 37)), (10, .ref (ad 40)), (11, .ref (ad 41)), (12, .int (nI (1))), (13, .int (nI (t))), (14, .int (nI (kd))), (15, .int (nI (g))), (16, .double (drF shr grp t (4))), (18, .double (mxF grp t (4))), (20, .double (mnF grp t (4))), (22, .double ((coF grp t (mxF grp t 4) (mnF grp t 4) (k)).2.2)), (26, .int (nI (k)))]) hx hb dL_same_566 hl (by decide) rfl (fun ls hl => ?_)
        refine g_reg (J := 588) (st1 := [.double ((coF grp t (mxF grp t 4) (mnF grp t 4) (k + 1)).2.2)]) hP hD hS (fun K_588 => ?_) (fun H locs hP hD hS => ?_)
        · refine lv_iload hx hb dL_same_568 (lv_at hl 3 rfl) ?_
          refine g_bif_ne (tgt := 578) hx hb dL_same_570 (by decide) (fun c_570 => ?_) (fun c_570 => ?_)
          · refine lv_dload hx hb dL_same_578 (lv_at hl 24 rfl) ?_
            refine lv_goto (tgt := 588) hx hb dL_same_580 (by decide) ?_
            refine g_dv (v' := ((coF grp t (mxF grp t 4) (mnF grp t 4) (k + 1)).2.2)) ((by show _ = if (coO (grp (t * 4 + k)) (mxF grp t 4) (coF grp t (mxF grp t 4) (mnF grp t 4) k).1 || coL (grp (t * 4 + k)) (mnF grp t 4) (coO (grp (t * 4 + k)) (mxF grp t 4) (coF grp t (mxF grp t 4) (mnF grp t 4) k).1) (coF grp t (mxF grp t 4) (mnF grp t 4) k).2.1) = true then (coF grp t (mxF grp t 4) (mnF grp t 4) k).2.2 else FP.dadd (coF grp t (mxF grp t 4) (mnF grp t 4) k).2.2 (grp (t * 4 + k)); rw [c_570, Bool.true_or, if_pos rfl])) ?_
            exact K_588 _ _ hP hD hS
          · refine lv_iload hx hb dL_same_573 (lv_at hl 1 rfl) ?_
            refine g_bif_eq (tgt := 583) hx hb dL_same_575 (by decide) (fun c_575 => ?_) (fun c_575 => ?_)
            · refine lv_dload hx hb dL_same_583 (lv_at hl 24 rfl) ?_
              refine lv_dload hx hb dL_same_585 (lv_at hl 4 rfl) ?_
              refine lv_dadd hx hb dL_same_587 (by rw [core_co hg4 k (by omega)]; exact (hcore _ _ k hj_k).1) ?_
              refine g_dv (v' := ((coF grp t (mxF grp t 4) (mnF grp t 4) (k + 1)).2.2)) ((by show _ = if (coO (grp (t * 4 + k)) (mxF grp t 4) (coF grp t (mxF grp t 4) (mnF grp t 4) k).1 || coL (grp (t * 4 + k)) (mnF grp t 4) (coO (grp (t * 4 + k)) (mxF grp t 4) (coF grp t (mxF grp t 4) (mnF grp t 4) k).1) (coF grp t (mxF grp t 4) (mnF grp t 4) k).2.1) = true then (coF grp t (mxF grp t 4) (mnF grp t 4) k).2.2 else FP.dadd (coF grp t (mxF grp t 4) (mnF grp t 4) k).2.2 (grp (t * 4 + k)); rw [c_575, c_570, if_neg (by decide)])) ?_
              exact K_588 _ _ hP hD hS
            · refine lv_dload hx hb dL_same_578 (lv_at hl 24 rfl) ?_
              refine lv_goto (tgt := 588) hx hb dL_same_580 (by decide) ?_
              refine g_dv (v' := ((coF grp t (mxF grp t 4) (mnF grp t 4) (k + 1)).2.2)) ((by show _ = if (coO (grp (t * 4 + k)) (mxF grp t 4) (coF grp t (mxF grp t 4) (mnF grp t 4) k).1 || coL (grp (t * 4 + k)) (mnF grp t 4) (coO (grp (t * 4 + k)) (mxF grp t 4) (coF grp t (mxF grp t 4) (mnF grp t 4) k).1) (coF grp t (mxF grp t 4) (mnF grp t 4) k).2.1) = true then (coF grp t (mxF grp t 4) (mnF grp t 4) k).2.2 else FP.dadd (coF grp t (mxF grp t 4) (mnF grp t 4) k).2.2 (grp (t * 4 + k)); rw [c_575, c_570, if_pos (by decide)])) ?_
              exact K_588 _ _ hP hD hS
        refine lv_dstore (lv' := [(22, .double ((coF grp t (mxF grp t 4) (mnF grp t 4) (k + 1)).2.2)), (25, .int (gb ((coF grp t (mxF grp t 4) (mnF grp t 4) (k + 1)).2.1))), (30, .int (gb (coL (grp (t * 4 + k)) (mnF grp t 4) (coO (grp (t * 4 + k)) (mxF grp t 4) (coF grp t (mxF grp t 4) (mnF grp t 4) k).1) (coF grp t (mxF grp t 4) (mnF grp t 4) k).2.1))), (24, .int (gb ((coF grp t (mxF grp t 4) (mnF grp t 4) (k + 1)).1))), (29, .int (gb (coO (grp (t * 4 + k)) (mxF grp t 4) (coF grp t (mxF grp t 4) (mnF grp t 4) k).1))), (27, .double (grp (t * 4 + k))), (0, .ref (ad 1)), (1, .int (yv)), (2, .ref (ad 30)), (3, .ref (ad 31)), (4, .ref (ad 32)), (5, .ref (ad 33)), (6, .ref (ad 34)), (7, .ref (ad 35)), (8, .ref (ad 36)), (9, .ref (ad 37)), (10, .ref (ad 40)), (11, .ref (ad 41)), (12, .int (nI (1))), (13, .int (nI (t))), (14, .int (nI (kd))), (15, .int (nI (g))), (16, .double (drF shr grp t (4))), (18, .double (mxF grp t (4))), (20, .double (mnF grp t (4))), (26, .int (nI (k)))]) hx hb dL_same_588 hl (by decide) rfl (fun ls hl => ?_)
        refine lv_iinc (v := nI (k + 1)) (lv' := [(26, .int (nI (k + 1))), (22, .double ((coF grp t (mxF grp t 4) (mnF grp t 4) (k + 1)).2.2)), (25, .int (gb ((coF grp t (mxF grp t 4) (mnF grp t 4) (k + 1)).2.1))), (30, .int (gb (coL (grp (t * 4 + k)) (mnF grp t 4) (coO (grp (t * 4 + k)) (mxF grp t 4) (coF grp t (mxF grp t 4) (mnF grp t 4) k).1) (coF grp t (mxF grp t 4) (mnF grp t 4) k).2.1))), (24, .int (gb ((coF grp t (mxF grp t 4) (mnF grp t 4) (k + 1)).1))), (29, .int (gb (coO (grp (t * 4 + k)) (mxF grp t 4) (coF grp t (mxF grp t 4) (mnF grp t 4) k).1))), (27, .double (grp (t * 4 + k))), (0, .ref (ad 1)), (1, .int (yv)), (2, .ref (ad 30)), (3, .ref (ad 31)), (4, .ref (ad 32)), (5, .ref (ad 33)), (6, .ref (ad 34)), (7, .ref (ad 35)), (8, .ref (ad 36)), (9, .ref (ad 37)), (10, .ref (ad 40)), (11, .ref (ad 41)), (12, .int (nI (1))), (13, .int (nI (t))), (14, .int (nI (kd))), (15, .int (nI (g))), (16, .double (drF shr grp t (4))), (18, .double (mxF grp t (4))), (20, .double (mnF grp t (4)))]) hx hb dL_same_590 hl (k := 25) rfl (nI_add _ 1) (by decide) rfl (fun ls hl => ?_)
        refine lv_goto (tgt := 459) hx hb dL_same_593 (by decide) ?_
        have hP : gvP D vwCl u_263 _ := g_trP (rfl) hP
        have hD : gvD A u_263 := g_trD (rfl) hD
        exact ih_k H locs ls hP hD hS (lv_sub hl [7, 8, 9, 10, 11, 12, 13, 14, 15, 16, 17, 18, 19, 20, 21, 22, 23, 24, 25, 1, 4, 2, 0] rfl)
    · intro k hj_k ih_k H locs ls hP hD hS hl
      have hP : gvP D vwCl u_263 H := hP
      have hD : gvD A u_263 := hD
      have hl : lv_has ls 31 [(0, .ref (ad 1)), (1, .int (yv)), (2, .ref (ad 30)), (3, .ref (ad 31)), (4, .ref (ad 32)), (5, .ref (ad 33)), (6, .ref (ad 34)), (7, .ref (ad 35)), (8, .ref (ad 36)), (9, .ref (ad 37)), (10, .ref (ad 40)), (11, .ref (ad 41)), (12, .int (nI (1))), (13, .int (nI (t))), (14, .int (nI (kd))), (15, .int (nI (g))), (16, .double (drF shr grp t (k))), (18, .double (mxF grp t (k))), (20, .double (mnF grp t (k))), (22, .int (nI (k)))] := hl
      refine lv_iload hx hb dL_same_313 (lv_at hl 19 rfl) ?_
      refine lv_iconst (v := nI 4) hx hb dL_same_315 (by decide) ?_
      refine g_icmp_ge (tgt := 447) hx hb (by omega) (by omega) dL_same_316 (by decide) (fun c_316 => absurd c_316 (by omega)) (fun c_316 => ?_)
      refine lv_dconst1 hx hb dL_same_319 ?_
      refine lv_dstore (lv' := [(23, .double FP.dconst1), (0, .ref (ad 1)), (1, .int (yv)), (2, .ref (ad 30)), (3, .ref (ad 31)), (4, .ref (ad 32)), (5, .ref (ad 33)), (6, .ref (ad 34)), (7, .ref (ad 35)), (8, .ref (ad 36)), (9, .ref (ad 37)), (10, .ref (ad 40)), (11, .ref (ad 41)), (12, .int (nI (1))), (13, .int (nI (t))), (14, .int (nI (kd))), (15, .int (nI (g))), (16, .double (drF shr grp t (k))), (18, .double (mxF grp t (k))), (20, .double (mnF grp t (k))), (22, .int (nI (k)))]) hx hb dL_same_320 hl (by decide) rfl (fun ls hl => ?_)
      refine lv_iconst (v := nI 1) hx hb dL_same_322 (by decide) ?_
      refine lv_istore (lv' := [(25, .int (nI (1))), (23, .double FP.dconst1), (0, .ref (ad 1)), (1, .int (yv)), (2, .ref (ad 30)), (3, .ref (ad 31)), (4, .ref (ad 32)), (5, .ref (ad 33)), (6, .ref (ad 34)), (7, .ref (ad 35)), (8, .ref (ad 36)), (9, .ref (ad 37)), (10, .ref (ad 40)), (11, .ref (ad 41)), (12, .int (nI (1))), (13, .int (nI (t))), (14, .int (nI (kd))), (15, .int (nI (g))), (16, .double (drF shr grp t (k))), (18, .double (mxF grp t (k))), (20, .double (mnF grp t (k))), (22, .int (nI (k)))]) hx hb dL_same_323 hl (by decide) rfl (fun ls hl => ?_)
      have hP : gvP D vwCl u_263 _ := g_trP (rfl) hP
      have hD : gvD A u_263 := g_trD (rfl) hD
      refine g_forP (fun m9 => (1 ≤ m9)) (fun m9 => u_263) (fun m9 => [(0, .ref (ad 1)), (1, .int (yv)), (2, .ref (ad 30)), (3, .ref (ad 31)), (4, .ref (ad 32)), (5, .ref (ad 33)), (6, .ref (ad 34)), (7, .ref (ad 35)), (8, .ref (ad 36)), (9, .ref (ad 37)), (10, .ref (ad 40)), (11, .ref (ad 41)), (12, .int (nI (1))), (13, .int (nI (t))), (14, .int (nI (kd))), (15, .int (nI (g))), (16, .double (drF shr grp t (k))), (18, .double (mxF grp t (k))), (20, .double (mnF grp t (k))), (22, .int (nI (k))), (23, .double (prodF grp k (m9 - 1))), (25, .int (nI (m9)))]) ((t + 1)) (1) (by omega) ?_ ?_ (by omega) hP hD hS (lv_sub hl [2, 3, 4, 5, 6, 7, 8, 9, 10, 11, 12, 13, 14, 15, 16, 17, 18, 19, 20, 21, 1, 0] rfl)
      · intro hp_m9 H locs ls hP hD hS hl
        have hP : gvP D vwCl u_263 H := hP
        have hD : gvD A u_263 := hD
        have hl : lv_has ls 31 [(0, .ref (ad 1)), (1, .int (yv)), (2, .ref (ad 30)), (3, .ref (ad 31)), (4, .ref (ad 32)), (5, .ref (ad 33)), (6, .ref (ad 34)), (7, .ref (ad 35)), (8, .ref (ad 36)), (9, .ref (ad 37)), (10, .ref (ad 40)), (11, .ref (ad 41)), (12, .int (nI (1))), (13, .int (nI (t))), (14, .int (nI (kd))), (15, .int (nI (g))), (16, .double (drF shr grp t (k))), (18, .double (mxF grp t (k))), (20, .double (mnF grp t (k))), (22, .int (nI (k))), (23, .double (prodF grp k ((t + 1) - 1))), (25, .int (nI ((t + 1))))] := hl
        refine lv_iload hx hb dL_same_325 (lv_at hl 21 rfl) ?_
        refine lv_iload hx hb dL_same_327 (lv_at hl 13 rfl) ?_
        refine g_icmp_gt (tgt := 365) hx hb (by omega) (by omega) dL_same_329 (by decide) (fun c_329 => ?_) (fun c_329 => absurd c_329 (by omega))
        refine lv_dload hx hb dL_same_365 (lv_at hl 16 rfl) ?_
        refine lv_iconst (v := nI 0) hx hb dL_same_367 (by decide) ?_
        refine lv_iload hx hb dL_same_368 (lv_at hl 19 rfl) ?_
        refine lv_iload hx hb dL_same_370 (lv_at hl 13 rfl) ?_
        refine lv_aload hx hb dL_same_372 (lv_at hl 9 rfl) ?_
        refine gc_S_d (As := [.int (nI (0)), .int (nI (k)), .int (nI (t)), .ref (ad 37)]) (rest := [.double (drF shr grp t (k))]) (c_L_share l f_ze b_ze (by decide) hj_k (by omega) (l5 t ht 0 (by decide) k hj_k).1) ⟨hx, hb, hml, hown, hts⟩ (va_cwS 4 hts gL_same_L_share rfl rfl rfl (by decide +kernel) ⟨Nat.le_of_ble_eq_true rfl, Nat.le_of_ble_eq_true rfl⟩) hE hP hD hS hA rfl rfl hl.1 (Nat.le_of_ble_eq_true rfl) dL_same_374 ⟨Nat.le_of_ble_eq_true rfl, Nat.le_of_ble_eq_true rfl⟩ (fun r_374 u_374 H locs hP hD hS q_374 => ?_)
        have q9 := q_374.trans (l5 t ht 0 (by decide) k hj_k).2
        subst q9
        refine lv_dload hx hb dL_same_377 (lv_at hl 20 rfl) ?_
        refine g_dv (v' := prodF grp k t) (by rw [Nat.add_sub_cancel]) ?_
        refine lv_dmul hx hb dL_same_379 (hdir.2.1 k hj_k).1 ?_
        refine lv_dadd hx hb dL_same_380 (hdir.2.1 k hj_k).2 ?_
        refine lv_dstore (lv' := [(16, .double (FP.dadd (drF shr grp t (k)) (FP.dmul (shr ((t * 5 + 0) * 4 + k)) (prodF grp k t)))), (0, .ref (ad 1)), (1, .int (yv)), (2, .ref (ad 30)), (3, .ref (ad 31)), (4, .ref (ad 32)), (5, .ref (ad 33)), (6, .ref (ad 34)), (7, .ref (ad 35)), (8, .ref (ad 36)), (9, .ref (ad 37)), (10, .ref (ad 40)), (11, .ref (ad 41)), (12, .int (nI (1))), (13, .int (nI (t))), (14, .int (nI (kd))), (15, .int (nI (g))), (18, .double (mxF grp t (k))), (20, .double (mnF grp t (k))), (22, .int (nI (k))), (23, .double (prodF grp k ((t + 1) - 1))), (25, .int (nI ((t + 1))))]) hx hb dL_same_381 hl (by decide) rfl (fun ls hl => ?_)
        refine lv_iload hx hb dL_same_383 (lv_at hl 19 rfl) ?_
        refine lv_iload hx hb dL_same_385 (lv_at hl 14 rfl) ?_
        refine lv_iconst (v := nI 0) hx hb dL_same_387 (by decide) ?_
        refine lv_aload_n hx hb dL_same_388 rfl (lv_at hl 3 rfl) ?_
        refine lv_aload_n hx hb dL_same_389 rfl (lv_at hl 4 rfl) ?_
        refine lv_aload hx hb dL_same_390 (lv_at hl 5 rfl) ?_
        refine lv_aload hx hb dL_same_392 (lv_at hl 6 rfl) ?_
        refine lv_aload hx hb dL_same_394 (lv_at hl 7 rfl) ?_
        refine lv_aload hx hb dL_same_396 (lv_at hl 8 rfl) ?_
        refine lv_aload hx hb dL_same_398 (lv_at hl 9 rfl) ?_
        refine lv_aload hx hb dL_same_400 (lv_at hl 12 rfl) ?_
        refine gc_S_d (As := [.int (nI (k)), .int (nI (t)), .int (gb (false)), .ref (ad 30), .ref (ad 31), .ref (ad 32), .ref (ad 33), .ref (ad 34), .ref (ad 35), .ref (ad 36), .ref (ad 41)]) (rest := []) (c_L_group l f_zi f_zc f_zg f_zf f_zn f_zl f_zr f_zq b_zi b_zc b_zg b_zf b_zn b_zl b_zr b_zq (n := n) (T := nw) (MM := M) (G := G) (M := (rK cf cents grams lc lg pr)) (o := (sRate cents grams)) (b := (sBase lc lg pr)) (pr := pr) (rel := rel) hj_k ht l1.2.2 l1.1 l1.2.1 (fun k9 hk9 => ⟨(l2 k9 hk9).1, (l2 k9 hk9).2.1, (l2 k9 hk9).2.2, (l3 k9 hk9 t ht).2⟩) (fun k9 hk9 t9 ht9 => (l3 k9 hk9 t9 ht9).1) (l4 t ht k hj_k).1) ⟨hx, hb, hml, hown, hts⟩ (va_cwS 11 hts gL_same_L_group rfl rfl rfl (by decide +kernel) ⟨Nat.le_of_ble_eq_true rfl, Nat.le_of_ble_eq_true rfl⟩) hE hP hD hS hA rfl rfl hl.1 (Nat.le_of_ble_eq_true rfl) dL_same_402 ⟨Nat.le_of_ble_eq_true rfl, Nat.le_of_ble_eq_true rfl⟩ (fun r_402 u_402 H locs hP hD hS q_402 => ?_)
        have q9 := q_402.trans (l4 t ht k hj_k).2
        subst q9
        refine lv_dstore (lv' := [(25, .double (grp (t * 4 + k))), (16, .double (FP.dadd (drF shr grp t (k)) (FP.dmul (shr ((t * 5 + 0) * 4 + k)) (prodF grp k t)))), (0, .ref (ad 1)), (1, .int (yv)), (2, .ref (ad 30)), (3, .ref (ad 31)), (4, .ref (ad 32)), (5, .ref (ad 33)), (6, .ref (ad 34)), (7, .ref (ad 35)), (8, .ref (ad 36)), (9, .ref (ad 37)), (10, .ref (ad 40)), (11, .ref (ad 41)), (12, .int (nI (1))), (13, .int (nI (t))), (14, .int (nI (kd))), (15, .int (nI (g))), (18, .double (mxF grp t (k))), (20, .double (mnF grp t (k))), (22, .int (nI (k))), (23, .double (prodF grp k ((t + 1) - 1)))]) hx hb dL_same_405 hl (by decide) rfl (fun ls hl => ?_)
        refine g_reg (J := 422) (st1 := [.double (mxF grp t (k + 1))]) hP hD hS (fun K_422 => ?_) (fun H locs hP hD hS => ?_)
        · refine lv_dload hx hb dL_same_407 (lv_at hl 0 rfl) ?_
          refine lv_dload hx hb dL_same_409 (lv_at hl 18 rfl) ?_
          refine g_dcmpl_le (tgt := 420) hx hb dL_same_411 dL_same_412 (by decide) (fun c_411 => ?_) (fun c_411 => ?_)
          · refine lv_dload hx hb dL_same_420 (lv_at hl 18 rfl) ?_
            refine g_dv (v' := (mxF grp t (k + 1))) ((if_neg c_411).symm) ?_
            exact K_422 _ _ hP hD hS
          · refine lv_dload hx hb dL_same_415 (lv_at hl 0 rfl) ?_
            refine lv_goto (tgt := 422) hx hb dL_same_417 (by decide) ?_
            refine g_dv (v' := (mxF grp t (k + 1))) ((if_pos c_411).symm) ?_
            exact K_422 _ _ hP hD hS
        refine lv_dstore (lv' := [(18, .double (mxF grp t (k + 1))), (25, .double (grp (t * 4 + k))), (16, .double (FP.dadd (drF shr grp t (k)) (FP.dmul (shr ((t * 5 + 0) * 4 + k)) (prodF grp k t)))), (0, .ref (ad 1)), (1, .int (yv)), (2, .ref (ad 30)), (3, .ref (ad 31)), (4, .ref (ad 32)), (5, .ref (ad 33)), (6, .ref (ad 34)), (7, .ref (ad 35)), (8, .ref (ad 36)), (9, .ref (ad 37)), (10, .ref (ad 40)), (11, .ref (ad 41)), (12, .int (nI (1))), (13, .int (nI (t))), (14, .int (nI (kd))), (15, .int (nI (g))), (20, .double (mnF grp t (k))), (22, .int (nI (k))), (23, .double (prodF grp k ((t + 1) - 1)))]) hx hb dL_same_422 hl (by decide) rfl (fun ls hl => ?_)
        refine g_reg (J := 439) (st1 := [.double (mnF grp t (k + 1))]) hP hD hS (fun K_439 => ?_) (fun H locs hP hD hS => ?_)
        · refine lv_dload hx hb dL_same_424 (lv_at hl 1 rfl) ?_
          refine lv_dload hx hb dL_same_426 (lv_at hl 19 rfl) ?_
          refine g_dcmpg_ge (tgt := 437) hx hb dL_same_428 dL_same_429 (by decide) (fun c_428 => ?_) (fun c_428 => ?_)
          · refine lv_dload hx hb dL_same_437 (lv_at hl 19 rfl) ?_
            refine g_dv (v' := (mnF grp t (k + 1))) ((if_neg c_428).symm) ?_
            exact K_439 _ _ hP hD hS
          · refine lv_dload hx hb dL_same_432 (lv_at hl 1 rfl) ?_
            refine lv_goto (tgt := 439) hx hb dL_same_434 (by decide) ?_
            refine g_dv (v' := (mnF grp t (k + 1))) ((if_pos c_428).symm) ?_
            exact K_439 _ _ hP hD hS
        refine lv_dstore (lv' := [(20, .double (mnF grp t (k + 1))), (18, .double (mxF grp t (k + 1))), (25, .double (grp (t * 4 + k))), (16, .double (FP.dadd (drF shr grp t (k)) (FP.dmul (shr ((t * 5 + 0) * 4 + k)) (prodF grp k t)))), (0, .ref (ad 1)), (1, .int (yv)), (2, .ref (ad 30)), (3, .ref (ad 31)), (4, .ref (ad 32)), (5, .ref (ad 33)), (6, .ref (ad 34)), (7, .ref (ad 35)), (8, .ref (ad 36)), (9, .ref (ad 37)), (10, .ref (ad 40)), (11, .ref (ad 41)), (12, .int (nI (1))), (13, .int (nI (t))), (14, .int (nI (kd))), (15, .int (nI (g))), (22, .int (nI (k))), (23, .double (prodF grp k ((t + 1) - 1)))]) hx hb dL_same_439 hl (by decide) rfl (fun ls hl => ?_)
        refine lv_iinc (v := nI (k + 1)) (lv' := [(22, .int (nI (k + 1))), (20, .double (mnF grp t (k + 1))), (18, .double (mxF grp t (k + 1))), (25, .double (grp (t * 4 + k))), (16, .double (FP.dadd (drF shr grp t (k)) (FP.dmul (shr ((t * 5 + 0) * 4 + k)) (prodF grp k t)))), (0, .ref (ad 1)), (1, .int (yv)), (2, .ref (ad 30)), (3, .ref (ad 31)), (4, .ref (ad 32)), (5, .ref (ad 33)), (6, .ref (ad 34)), (7, .ref (ad 35)), (8, .ref (ad 36)), (9, .ref (ad 37)), (10, .ref (ad 40)), (11, .ref (ad 41)), (12, .int (nI (1))), (13, .int (nI (t))), (14, .int (nI (kd))), (15, .int (nI (g))), (23, .double (prodF grp k ((t + 1) - 1)))]) hx hb dL_same_441 hl (k := 20) rfl (nI_add _ 1) (by decide) rfl (fun ls hl => ?_)
        refine lv_goto (tgt := 313) hx hb dL_same_444 (by decide) ?_
        have hP : gvP D vwCl u_263 _ := g_trP (rfl) hP
        have hD : gvD A u_263 := g_trD (rfl) hD
        exact ih_k H locs ls hP hD hS (lv_sub hl [5, 6, 7, 8, 9, 10, 11, 12, 13, 14, 15, 16, 17, 18, 19, 20, 4, 2, 1, 0] rfl)
      · intro m9 hj_m9 hp_m9 ih_m9 H locs ls hP hD hS hl
        have hP : gvP D vwCl u_263 H := hP
        have hD : gvD A u_263 := hD
        have hl : lv_has ls 31 [(0, .ref (ad 1)), (1, .int (yv)), (2, .ref (ad 30)), (3, .ref (ad 31)), (4, .ref (ad 32)), (5, .ref (ad 33)), (6, .ref (ad 34)), (7, .ref (ad 35)), (8, .ref (ad 36)), (9, .ref (ad 37)), (10, .ref (ad 40)), (11, .ref (ad 41)), (12, .int (nI (1))), (13, .int (nI (t))), (14, .int (nI (kd))), (15, .int (nI (g))), (16, .double (drF shr grp t (k))), (18, .double (mxF grp t (k))), (20, .double (mnF grp t (k))), (22, .int (nI (k))), (23, .double (prodF grp k (m9 - 1))), (25, .int (nI (m9)))] := hl
        refine lv_iload hx hb dL_same_325 (lv_at hl 21 rfl) ?_
        refine lv_iload hx hb dL_same_327 (lv_at hl 13 rfl) ?_
        refine g_icmp_gt (tgt := 365) hx hb (by omega) (by omega) dL_same_329 (by decide) (fun c_329 => absurd c_329 (by omega)) (fun c_329 => ?_)
        refine lv_dload hx hb dL_same_332 (lv_at hl 20 rfl) ?_
        refine lv_iload hx hb dL_same_334 (lv_at hl 19 rfl) ?_
        refine lv_iload hx hb dL_same_336 (lv_at hl 21 rfl) ?_
        refine lv_iconst (v := nI 0) hx hb dL_same_338 (by decide) ?_
        refine lv_aload_n hx hb dL_same_339 rfl (lv_at hl 2 rfl) ?_
        refine lv_aload_n hx hb dL_same_340 rfl (lv_at hl 3 rfl) ?_
        refine lv_aload hx hb dL_same_341 (lv_at hl 4 rfl) ?_
        refine lv_aload hx hb dL_same_343 (lv_at hl 5 rfl) ?_
        refine lv_aload hx hb dL_same_345 (lv_at hl 6 rfl) ?_
        refine lv_aload hx hb dL_same_347 (lv_at hl 7 rfl) ?_
        refine lv_aload hx hb dL_same_349 (lv_at hl 8 rfl) ?_
        refine lv_aload hx hb dL_same_351 (lv_at hl 11 rfl) ?_
        refine gc_S_d (As := [.int (nI (k)), .int (nI (m9)), .int (gb (false)), .ref (ad 30), .ref (ad 31), .ref (ad 32), .ref (ad 33), .ref (ad 34), .ref (ad 35), .ref (ad 36), .ref (ad 41)]) (rest := [.double (prodF grp k (m9 - 1))]) (c_L_group l f_zi f_zc f_zg f_zf f_zn f_zl f_zr f_zq b_zi b_zc b_zg b_zf b_zn b_zl b_zr b_zq (n := n) (T := nw) (MM := M) (G := G) (M := (rK cf cents grams lc lg pr)) (o := (sRate cents grams)) (b := (sBase lc lg pr)) (pr := pr) (rel := rel) hj_k (by omega) l1.2.2 l1.1 l1.2.1 (fun k9 hk9 => ⟨(l2 k9 hk9).1, (l2 k9 hk9).2.1, (l2 k9 hk9).2.2, (l3 k9 hk9 m9 (by omega)).2⟩) (fun k9 hk9 t9 ht9 => (l3 k9 hk9 t9 ht9).1) (l4 m9 (by omega) k hj_k).1) ⟨hx, hb, hml, hown, hts⟩ (va_cwS 11 hts gL_same_L_group rfl rfl rfl (by decide +kernel) ⟨Nat.le_of_ble_eq_true rfl, Nat.le_of_ble_eq_true rfl⟩) hE hP hD hS hA rfl rfl hl.1 (Nat.le_of_ble_eq_true rfl) dL_same_353 ⟨Nat.le_of_ble_eq_true rfl, Nat.le_of_ble_eq_true rfl⟩ (fun r_353 u_353 H locs hP hD hS q_353 => ?_)
        have q9 := q_353.trans (l4 m9 (by omega) k hj_k).2
        subst q9
        refine lv_dmul hx hb dL_same_356 (nnProd hdir hj_k hp_m9 (by omega)) ?_
        refine g_dv (v' := prodF grp k (m9 + 1 - 1)) (prodF_s hp_m9) ?_
        refine lv_dstore (lv' := [(23, .double (prodF grp k (m9 + 1 - 1))), (0, .ref (ad 1)), (1, .int (yv)), (2, .ref (ad 30)), (3, .ref (ad 31)), (4, .ref (ad 32)), (5, .ref (ad 33)), (6, .ref (ad 34)), (7, .ref (ad 35)), (8, .ref (ad 36)), (9, .ref (ad 37)), (10, .ref (ad 40)), (11, .ref (ad 41)), (12, .int (nI (1))), (13, .int (nI (t))), (14, .int (nI (kd))), (15, .int (nI (g))), (16, .double (drF shr grp t (k))), (18, .double (mxF grp t (k))), (20, .double (mnF grp t (k))), (22, .int (nI (k))), (25, .int (nI (m9)))]) hx hb dL_same_357 hl (by decide) rfl (fun ls hl => ?_)
        refine lv_iinc (v := nI (m9 + 1)) (lv' := [(25, .int (nI (m9 + 1))), (23, .double (prodF grp k (m9 + 1 - 1))), (0, .ref (ad 1)), (1, .int (yv)), (2, .ref (ad 30)), (3, .ref (ad 31)), (4, .ref (ad 32)), (5, .ref (ad 33)), (6, .ref (ad 34)), (7, .ref (ad 35)), (8, .ref (ad 36)), (9, .ref (ad 37)), (10, .ref (ad 40)), (11, .ref (ad 41)), (12, .int (nI (1))), (13, .int (nI (t))), (14, .int (nI (kd))), (15, .int (nI (g))), (16, .double (drF shr grp t (k))), (18, .double (mxF grp t (k))), (20, .double (mnF grp t (k))), (22, .int (nI (k)))]) hx hb dL_same_359 hl (k := 21) rfl (nI_add _ 1) (by decide) rfl (fun ls hl => ?_)
        refine lv_goto (tgt := 325) hx hb dL_same_362 (by decide) ?_
        have hP : gvP D vwCl u_263 _ := g_trP (rfl) hP
        have hD : gvD A u_263 := g_trD (rfl) hD
        exact ih_m9 (by omega) H locs ls hP hD hS (lv_sub hl [2, 3, 4, 5, 6, 7, 8, 9, 10, 11, 12, 13, 14, 15, 16, 17, 18, 19, 20, 21, 1, 0] rfl)
