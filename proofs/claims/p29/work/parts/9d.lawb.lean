theorem sub_off {x : Nat} (j : Nat) (hj : j ≤ 12) : nI x - nI (12 - j) = nI (x + j) - nI 12 := by
  refine Int32.toBitVec_inj.mp ?_
  show BitVec.ofNat 32 x - BitVec.ofNat 32 (12 - j) = BitVec.ofNat 32 (x + j) - BitVec.ofNat 32 12
  apply BitVec.eq_of_toNat_eq
  simp only [BitVec.toNat_sub, BitVec.toNat_ofNat]
  omega
set_option maxHeartbeats 4000000 in
set_option maxRecDepth 100000 in
theorem c_L_goes (l : Launch) {D : va_G} {y : Nat → Nat} {ws : va_W} {p_zi p_zc p_zg p_zf p_zn p_zl p_zr a_zi a_zc a_zg a_zf a_zn a_zl a_zr : Nat} {zi : Nat → Nat} {zc : Nat → Nat} {zg : Nat → Nat} {zf : Nat → Nat} {zn : Nat → Nat} {zl : Nat → Nat} {zr : Nat → Nat} {it mo wh mn T : Nat} {wf : Bool} {M : Nat → Bool} {o b pr : Nat → UInt64} (f0_zi : ws[p_zi]? = some (a_zi, eN y 12 zi)) (f0_zc : ws[p_zc]? = some (a_zc, eN y 60 zc)) (f0_zg : ws[p_zg]? = some (a_zg, eN y 60 zg)) (f0_zf : ws[p_zf]? = some (a_zf, eN y 60 zf)) (f0_zn : ws[p_zn]? = some (a_zn, eN y 60 zn)) (f0_zl : ws[p_zl]? = some (a_zl, eN y 60 zl)) (f0_zr : ws[p_zr]? = some (a_zr, eN y 60 zr)) (b_zi : ∀ k, zi k ≤ 4095) (b_zc : ∀ k, zc k ≤ 100000) (b_zg : ∀ k, zg k ≤ 10000) (b_zf : ∀ k, zf k ≤ 100000) (b_zn : ∀ k, zn k ≤ 1) (b_zl : ∀ k, zl k ≤ 100000) (b_zr : ∀ k, zr k ≤ 10000) (hit : it < 4) (hmo : mo < T) (hT : T ≤ 5) (hwh : wh ≤ 8) (hmean : zi (3 * it + 1) = mn) (hmn : mn < 2 ^ 31) (hG : ∀ t, t < T → GK wf zc zg zf zn zl zr it mn M o b pr t) : gMd l yL_goes wsL_goes ({ frames := 1, cells := 0, slots := 0, locals := 27 }) D y [.int (nI (it)), .int (nI (mo)), .int (nI (wh)), .int (gb (wf)), .ref a_zi, .ref a_zc, .ref a_zg, .ref a_zf, .ref a_zn, .ref a_zl, .ref a_zr] ws (fun r (_ : Unit) => r = gV wh mn M o b pr (mo * 48 + it * 4 + 0)) (fun (_ : Unit) => ws) := by
  refine g_met_d (cc := cL_goes) (maxL := 50) (by decide) rfl (Nat.le_of_ble_eq_true rfl) ?_
  intro p e s m below meth c A hx hb hml hr hts hown hnm hlocks hE hP hD hS hA ls hl
  have hown : s.vm.findClass RL = some m.cls := hown
  have hl : lv_has ls 50 [(0, .int (nI (it))), (1, .int (nI (mo))), (2, .int (nI (wh))), (3, .int (gb (wf))), (4, .ref a_zi), (5, .ref a_zc), (6, .ref a_zg), (7, .ref a_zf), (8, .ref a_zn), (9, .ref a_zl), (10, .ref a_zr)] := hl
  refine g_dconst0 hx hb dL_goes_0 ?_
  refine lv_dstore (lv' := [(11, .double 0), (0, .int (nI (it))), (1, .int (nI (mo))), (2, .int (nI (wh))), (3, .int (gb (wf))), (4, .ref a_zi), (5, .ref a_zc), (6, .ref a_zg), (7, .ref a_zf), (8, .ref a_zn), (9, .ref a_zl), (10, .ref a_zr)]) hx hb dL_goes_1 hl (by decide) rfl (fun ls hl => ?_)
  refine g_dconst0 hx hb dL_goes_3 ?_
  refine lv_dstore (lv' := [(13, .double 0), (11, .double 0), (0, .int (nI (it))), (1, .int (nI (mo))), (2, .int (nI (wh))), (3, .int (gb (wf))), (4, .ref a_zi), (5, .ref a_zc), (6, .ref a_zg), (7, .ref a_zf), (8, .ref a_zn), (9, .ref a_zl), (10, .ref a_zr)]) hx hb dL_goes_4 hl (by decide) rfl (fun ls hl => ?_)
  refine g_dconst0 hx hb dL_goes_6 ?_
  refine lv_dstore (lv' := [(15, .double 0), (13, .double 0), (11, .double 0), (0, .int (nI (it))), (1, .int (nI (mo))), (2, .int (nI (wh))), (3, .int (gb (wf))), (4, .ref a_zi), (5, .ref a_zc), (6, .ref a_zg), (7, .ref a_zf), (8, .ref a_zn), (9, .ref a_zl), (10, .ref a_zr)]) hx hb dL_goes_7 hl (by decide) rfl (fun ls hl => ?_)
  refine lv_aload hx hb dL_goes_9 (lv_at hl 7 rfl) ?_
  refine lv_iconst (v := nI 3) hx hb dL_goes_11 (by decide) ?_
  refine lv_iload_n hx hb dL_goes_12 rfl (lv_at hl 3 rfl) ?_
  refine g_imul hx hb dL_goes_13 (pk_mul _ _) ?_
  refine lv_iconst (v := nI 1) hx hb dL_goes_14 (by decide) ?_
  refine g_iadd hx hb dL_goes_15 (nI_add _ _) ?_
  refine g_nald hx hb hE hP _ f0_zi (by omega) (by decide) dL_goes_16 ?_
  have bd_16_1 := b_zi ((3 * it) + 1)
  refine g_iv (v' := nI (mn)) (congrArg nI hmean) ?_
  refine lv_istore (lv' := [(17, .int (nI (mn))), (15, .double 0), (13, .double 0), (11, .double 0), (0, .int (nI (it))), (1, .int (nI (mo))), (2, .int (nI (wh))), (3, .int (gb (wf))), (4, .ref a_zi), (5, .ref a_zc), (6, .ref a_zg), (7, .ref a_zf), (8, .ref a_zn), (9, .ref a_zl), (10, .ref a_zr)]) hx hb dL_goes_17 hl (by decide) rfl (fun ls hl => ?_)
  refine lv_iconst (v := nI 0) hx hb dL_goes_19 (by decide) ?_
  refine lv_istore (lv' := [(18, .int (nI (0))), (17, .int (nI (mn))), (15, .double 0), (13, .double 0), (11, .double 0), (0, .int (nI (it))), (1, .int (nI (mo))), (2, .int (nI (wh))), (3, .int (gb (wf))), (4, .ref a_zi), (5, .ref a_zc), (6, .ref a_zg), (7, .ref a_zf), (8, .ref a_zn), (9, .ref a_zl), (10, .ref a_zr)]) hx hb dL_goes_20 hl (by decide) rfl (fun ls hl => ?_)
  have hP : gvP D vwCl ws _ := g_trP (rfl) hP
  have hD : gvD A ws := g_trD (rfl) hD
  refine g_forP (fun t => (t = mo + 1 → wh ≤ 2)) (fun t => ws) (fun t => [(0, .int (nI (it))), (1, .int (nI (mo))), (2, .int (nI (wh))), (3, .int (gb (wf))), (4, .ref a_zi), (5, .ref a_zc), (6, .ref a_zg), (7, .ref a_zf), (8, .ref a_zn), (9, .ref a_zl), (10, .ref a_zr), (11, .double (pvF pr it 0 (t))), (13, .double (pvF pr it 1 (t))), (15, .double (pvF pr it 3 (t))), (17, .int (nI (mn))), (18, .int (nI (t)))]) ((mo + 1)) (0) (by omega) ?_ ?_ (by omega) hP hD hS (lv_sub hl [5, 6, 7, 8, 9, 10, 11, 12, 13, 14, 15, 4, 3, 2, 1, 0] rfl)
  · intro hp_t H locs ls hP hD hS hl
    have hP : gvP D vwCl ws H := hP
    have hD : gvD A ws := hD
    have hl : lv_has ls 50 [(0, .int (nI (it))), (1, .int (nI (mo))), (2, .int (nI (wh))), (3, .int (gb (wf))), (4, .ref a_zi), (5, .ref a_zc), (6, .ref a_zg), (7, .ref a_zf), (8, .ref a_zn), (9, .ref a_zl), (10, .ref a_zr), (11, .double (pvF pr it 0 ((mo + 1)))), (13, .double (pvF pr it 1 ((mo + 1)))), (15, .double (pvF pr it 3 ((mo + 1)))), (17, .int (nI (mn))), (18, .int (nI ((mo + 1))))] := hl
    refine lv_iload hx hb dL_goes_22 (lv_at hl 15 rfl) ?_
    refine lv_iload_n hx hb dL_goes_24 rfl (lv_at hl 1 rfl) ?_
    refine g_icmp_gt (tgt := 830) hx hb (by omega) (by omega) dL_goes_25 (by decide) (fun c_25 => ?_) (fun c_25 => absurd c_25 (by omega))
    refine lv_iload_n hx hb dL_goes_830 rfl (lv_at hl 2 rfl) ?_
    refine g_if_ne (tgt := 839) hx hb (by omega) dL_goes_831 (by decide) (fun c_831 => ?_) (fun c_831 => ?_)
    · refine lv_iload_n hx hb dL_goes_839 rfl (lv_at hl 2 rfl) ?_
      refine lv_iconst (v := nI 1) hx hb dL_goes_840 (by decide) ?_
      refine g_icmp_ne (tgt := 849) hx hb (by omega) (by omega) dL_goes_841 (by decide) (fun c_841 => ?_) (fun c_841 => ?_)
      · refine lv_dload hx hb dL_goes_849 (lv_at hl 13 rfl) ?_
        refine g_dret hx hb hr hlocks () dL_goes_851 hS hP hD ?_
        unfold gV
        rw [if_neg (by omega), if_neg c_841, if_pos (show wh = 2 by have := hp_t rfl; omega), pvF_s]
      · refine lv_dload hx hb dL_goes_844 (lv_at hl 12 rfl) ?_
        refine lv_goto (tgt := 851) hx hb dL_goes_846 (by decide) ?_
        refine g_dret hx hb hr hlocks () dL_goes_851 hS hP hD ?_
        unfold gV
        rw [if_neg (by omega), if_pos c_841, pvF_s]
    · refine lv_dload hx hb dL_goes_834 (lv_at hl 11 rfl) ?_
      refine lv_goto (tgt := 851) hx hb dL_goes_836 (by decide) ?_
      refine g_dret hx hb hr hlocks () dL_goes_851 hS hP hD ?_
      unfold gV
      rw [if_pos c_831, pvF_s]
  · intro t hj_t hp_t ih_t H locs ls hP hD hS hl
    have hP : gvP D vwCl ws H := hP
    have hD : gvD A ws := hD
    have hl : lv_has ls 50 [(0, .int (nI (it))), (1, .int (nI (mo))), (2, .int (nI (wh))), (3, .int (gb (wf))), (4, .ref a_zi), (5, .ref a_zc), (6, .ref a_zg), (7, .ref a_zf), (8, .ref a_zn), (9, .ref a_zl), (10, .ref a_zr), (11, .double (pvF pr it 0 (t))), (13, .double (pvF pr it 1 (t))), (15, .double (pvF pr it 3 (t))), (17, .int (nI (mn))), (18, .int (nI (t)))] := hl
    obtain ⟨h1, h2, h3, h4, h5, h6, h7, h8, h9, h10⟩ := hG t (by omega)
    have hB0 := h2 0 (by decide)
    have hB1 := h2 1 (by decide)
    have hB2 := h2 2 (by decide)
    have bm9 := mN_le M (t * 48 + it * 4 + 0) 4
    refine lv_iload hx hb dL_goes_22 (lv_at hl 15 rfl) ?_
    refine lv_iload_n hx hb dL_goes_24 rfl (lv_at hl 1 rfl) ?_
    refine g_icmp_gt (tgt := 830) hx hb (by omega) (by omega) dL_goes_25 (by decide) (fun c_25 => absurd c_25 (by omega)) (fun c_25 => ?_)
    refine lv_bipush (v := nI 12) hx hb dL_goes_28 (by decide) ?_
    refine lv_iload hx hb dL_goes_30 (lv_at hl 15 rfl) ?_
    refine g_imul hx hb dL_goes_32 (pk_mul _ _) ?_
    refine lv_iconst (v := nI 3) hx hb dL_goes_33 (by decide) ?_
    refine lv_iload_n hx hb dL_goes_34 rfl (lv_at hl 0 rfl) ?_
    refine g_imul hx hb dL_goes_35 (pk_mul _ _) ?_
    refine g_iadd hx hb dL_goes_36 (nI_add _ _) ?_
    refine lv_istore (lv' := [(19, .int (nI ((12 * t) + (3 * it)))), (0, .int (nI (it))), (1, .int (nI (mo))), (2, .int (nI (wh))), (3, .int (gb (wf))), (4, .ref a_zi), (5, .ref a_zc), (6, .ref a_zg), (7, .ref a_zf), (8, .ref a_zn), (9, .ref a_zl), (10, .ref a_zr), (11, .double (pvF pr it 0 (t))), (13, .double (pvF pr it 1 (t))), (15, .double (pvF pr it 3 (t))), (17, .int (nI (mn))), (18, .int (nI (t)))]) hx hb dL_goes_37 hl (by decide) rfl (fun ls hl => ?_)
    refine lv_iload hx hb dL_goes_39 (lv_at hl 0 rfl) ?_
    refine lv_iload_n hx hb dL_goes_41 rfl (lv_at hl 4 rfl) ?_
    refine lv_aload hx hb dL_goes_42 (lv_at hl 6 rfl) ?_
    refine lv_aload hx hb dL_goes_44 (lv_at hl 7 rfl) ?_
    refine lv_aload hx hb dL_goes_46 (lv_at hl 8 rfl) ?_
    refine gc_S_d (As := [.int (nI ((12 * t) + (3 * it))), .int (gb (wf)), .ref a_zc, .ref a_zg, .ref a_zf]) (rest := []) (c_L_rate l f0_zc f0_zg f0_zf b_zc b_zg b_zf (wf := wf) (at1 := 12 * t + 3 * it + 0) (by omega) (h1 0 (by decide)).2) ⟨hx, hb, hml, hown, hts⟩ (va_cwS 5 hts gL_goes_L_rate rfl rfl rfl (by decide +kernel) ⟨Nat.le_of_ble_eq_true rfl, Nat.le_of_ble_eq_true rfl⟩) hE hP hD hS hA rfl rfl hl.1 (Nat.le_of_ble_eq_true rfl) dL_goes_48 ⟨Nat.le_of_ble_eq_true rfl, Nat.le_of_ble_eq_true rfl⟩ (fun r_48 u_48 H locs hP hD hS q_48 => ?_)
    have q9 := q_48.trans (h1 0 (by decide)).1
    subst q9
    refine lv_dstore (lv' := [(20, .double (o (t * 48 + it * 4 + 0 + 0))), (19, .int (nI ((12 * t) + (3 * it)))), (0, .int (nI (it))), (1, .int (nI (mo))), (2, .int (nI (wh))), (3, .int (gb (wf))), (4, .ref a_zi), (5, .ref a_zc), (6, .ref a_zg), (7, .ref a_zf), (8, .ref a_zn), (9, .ref a_zl), (10, .ref a_zr), (11, .double (pvF pr it 0 (t))), (13, .double (pvF pr it 1 (t))), (15, .double (pvF pr it 3 (t))), (17, .int (nI (mn))), (18, .int (nI (t)))]) hx hb dL_goes_51 hl (by decide) rfl (fun ls hl => ?_)
    refine lv_iload hx hb dL_goes_53 (lv_at hl 1 rfl) ?_
    refine lv_iconst (v := nI 1) hx hb dL_goes_55 (by decide) ?_
    refine g_iadd hx hb dL_goes_56 (nI_add _ _) ?_
    refine lv_iload_n hx hb dL_goes_57 rfl (lv_at hl 5 rfl) ?_
    refine lv_aload hx hb dL_goes_58 (lv_at hl 7 rfl) ?_
    refine lv_aload hx hb dL_goes_60 (lv_at hl 8 rfl) ?_
    refine lv_aload hx hb dL_goes_62 (lv_at hl 9 rfl) ?_
    refine gc_S_d (As := [.int (nI (((12 * t) + (3 * it)) + 1)), .int (gb (wf)), .ref a_zc, .ref a_zg, .ref a_zf]) (rest := []) (c_L_rate l f0_zc f0_zg f0_zf b_zc b_zg b_zf (wf := wf) (at1 := 12 * t + 3 * it + 1) (by omega) (h1 1 (by decide)).2) ⟨hx, hb, hml, hown, hts⟩ (va_cwS 5 hts gL_goes_L_rate rfl rfl rfl (by decide +kernel) ⟨Nat.le_of_ble_eq_true rfl, Nat.le_of_ble_eq_true rfl⟩) hE hP hD hS hA rfl rfl hl.1 (Nat.le_of_ble_eq_true rfl) dL_goes_64 ⟨Nat.le_of_ble_eq_true rfl, Nat.le_of_ble_eq_true rfl⟩ (fun r_64 u_64 H locs hP hD hS q_64 => ?_)
    have q9 := q_64.trans (h1 1 (by decide)).1
    subst q9
    refine lv_dstore (lv' := [(22, .double (o (t * 48 + it * 4 + 0 + 1))), (20, .double (o (t * 48 + it * 4 + 0 + 0))), (19, .int (nI ((12 * t) + (3 * it)))), (0, .int (nI (it))), (1, .int (nI (mo))), (2, .int (nI (wh))), (3, .int (gb (wf))), (4, .ref a_zi), (5, .ref a_zc), (6, .ref a_zg), (7, .ref a_zf), (8, .ref a_zn), (9, .ref a_zl), (10, .ref a_zr), (11, .double (pvF pr it 0 (t))), (13, .double (pvF pr it 1 (t))), (15, .double (pvF pr it 3 (t))), (17, .int (nI (mn))), (18, .int (nI (t)))]) hx hb dL_goes_67 hl (by decide) rfl (fun ls hl => ?_)
    refine lv_iload hx hb dL_goes_69 (lv_at hl 2 rfl) ?_
    refine lv_iconst (v := nI 2) hx hb dL_goes_71 (by decide) ?_
    refine g_iadd hx hb dL_goes_72 (nI_add _ _) ?_
    refine lv_iload_n hx hb dL_goes_73 rfl (lv_at hl 6 rfl) ?_
    refine lv_aload hx hb dL_goes_74 (lv_at hl 8 rfl) ?_
    refine lv_aload hx hb dL_goes_76 (lv_at hl 9 rfl) ?_
    refine lv_aload hx hb dL_goes_78 (lv_at hl 10 rfl) ?_
    refine gc_S_d (As := [.int (nI (((12 * t) + (3 * it)) + 2)), .int (gb (wf)), .ref a_zc, .ref a_zg, .ref a_zf]) (rest := []) (c_L_rate l f0_zc f0_zg f0_zf b_zc b_zg b_zf (wf := wf) (at1 := 12 * t + 3 * it + 2) (by omega) (h1 2 (by decide)).2) ⟨hx, hb, hml, hown, hts⟩ (va_cwS 5 hts gL_goes_L_rate rfl rfl rfl (by decide +kernel) ⟨Nat.le_of_ble_eq_true rfl, Nat.le_of_ble_eq_true rfl⟩) hE hP hD hS hA rfl rfl hl.1 (Nat.le_of_ble_eq_true rfl) dL_goes_80 ⟨Nat.le_of_ble_eq_true rfl, Nat.le_of_ble_eq_true rfl⟩ (fun r_80 u_80 H locs hP hD hS q_80 => ?_)
    have q9 := q_80.trans (h1 2 (by decide)).1
    subst q9
    refine lv_dstore (lv' := [(24, .double (o (t * 48 + it * 4 + 0 + 3))), (22, .double (o (t * 48 + it * 4 + 0 + 1))), (20, .double (o (t * 48 + it * 4 + 0 + 0))), (19, .int (nI ((12 * t) + (3 * it)))), (0, .int (nI (it))), (1, .int (nI (mo))), (2, .int (nI (wh))), (3, .int (gb (wf))), (4, .ref a_zi), (5, .ref a_zc), (6, .ref a_zg), (7, .ref a_zf), (8, .ref a_zn), (9, .ref a_zl), (10, .ref a_zr), (11, .double (pvF pr it 0 (t))), (13, .double (pvF pr it 1 (t))), (15, .double (pvF pr it 3 (t))), (17, .int (nI (mn))), (18, .int (nI (t)))]) hx hb dL_goes_83 hl (by decide) rfl (fun ls hl => ?_)
    refine lv_iload hx hb dL_goes_85 (lv_at hl 3 rfl) ?_
    refine lv_bipush (v := nI 12) hx hb dL_goes_87 (by decide) ?_
    refine g_isub hx hb dL_goes_89 rfl ?_
    refine lv_dload hx hb dL_goes_90 (lv_at hl 15 rfl) ?_
    refine lv_aload hx hb dL_goes_92 (lv_at hl 13 rfl) ?_
    refine lv_aload hx hb dL_goes_94 (lv_at hl 14 rfl) ?_
    refine gc_S_d (As := [.int (nI (12 * t + 3 * it + 0) - nI 12), .double (pvF pr it 0 (t)), .ref a_zl, .ref a_zr]) (rest := []) (c_L_base l f0_zl f0_zr b_zl b_zr (v9 := b (t * 48 + it * 4 + 0 + 0)) (hB0)) ⟨hx, hb, hml, hown, hts⟩ (va_cwS 4 hts gL_goes_L_base rfl rfl rfl (by decide +kernel) ⟨Nat.le_of_ble_eq_true rfl, Nat.le_of_ble_eq_true rfl⟩) hE hP hD hS hA rfl rfl hl.1 (Nat.le_of_ble_eq_true rfl) dL_goes_96 ⟨Nat.le_of_ble_eq_true rfl, Nat.le_of_ble_eq_true rfl⟩ (fun r_96 u_96 H locs hP hD hS q_96 => ?_)
    subst q_96
    refine lv_dstore (lv' := [(26, .double (b (t * 48 + it * 4 + 0 + 0))), (24, .double (o (t * 48 + it * 4 + 0 + 3))), (22, .double (o (t * 48 + it * 4 + 0 + 1))), (20, .double (o (t * 48 + it * 4 + 0 + 0))), (19, .int (nI ((12 * t) + (3 * it)))), (0, .int (nI (it))), (1, .int (nI (mo))), (2, .int (nI (wh))), (3, .int (gb (wf))), (4, .ref a_zi), (5, .ref a_zc), (6, .ref a_zg), (7, .ref a_zf), (8, .ref a_zn), (9, .ref a_zl), (10, .ref a_zr), (11, .double (pvF pr it 0 (t))), (13, .double (pvF pr it 1 (t))), (15, .double (pvF pr it 3 (t))), (17, .int (nI (mn))), (18, .int (nI (t)))]) hx hb dL_goes_99 hl (by decide) rfl (fun ls hl => ?_)
    refine lv_iload hx hb dL_goes_101 (lv_at hl 4 rfl) ?_
    refine lv_bipush (v := nI 11) hx hb dL_goes_103 (by decide) ?_
    refine g_isub hx hb dL_goes_105 (by show nI (12 * t + 3 * it) - nI 11 = nI (12 * t + 3 * it + 1) - nI 12; exact sub_off 1 (by decide)) ?_
    refine lv_dload hx hb dL_goes_106 (lv_at hl 17 rfl) ?_
    refine lv_aload hx hb dL_goes_108 (lv_at hl 14 rfl) ?_
    refine lv_aload hx hb dL_goes_110 (lv_at hl 15 rfl) ?_
    refine gc_S_d (As := [.int (nI (12 * t + 3 * it + 1) - nI 12), .double (pvF pr it 1 (t)), .ref a_zl, .ref a_zr]) (rest := []) (c_L_base l f0_zl f0_zr b_zl b_zr (v9 := b (t * 48 + it * 4 + 0 + 1)) (hB1)) ⟨hx, hb, hml, hown, hts⟩ (va_cwS 4 hts gL_goes_L_base rfl rfl rfl (by decide +kernel) ⟨Nat.le_of_ble_eq_true rfl, Nat.le_of_ble_eq_true rfl⟩) hE hP hD hS hA rfl rfl hl.1 (Nat.le_of_ble_eq_true rfl) dL_goes_112 ⟨Nat.le_of_ble_eq_true rfl, Nat.le_of_ble_eq_true rfl⟩ (fun r_112 u_112 H locs hP hD hS q_112 => ?_)
    subst q_112
    refine lv_dstore (lv' := [(28, .double (b (t * 48 + it * 4 + 0 + 1))), (26, .double (b (t * 48 + it * 4 + 0 + 0))), (24, .double (o (t * 48 + it * 4 + 0 + 3))), (22, .double (o (t * 48 + it * 4 + 0 + 1))), (20, .double (o (t * 48 + it * 4 + 0 + 0))), (19, .int (nI ((12 * t) + (3 * it)))), (0, .int (nI (it))), (1, .int (nI (mo))), (2, .int (nI (wh))), (3, .int (gb (wf))), (4, .ref a_zi), (5, .ref a_zc), (6, .ref a_zg), (7, .ref a_zf), (8, .ref a_zn), (9, .ref a_zl), (10, .ref a_zr), (11, .double (pvF pr it 0 (t))), (13, .double (pvF pr it 1 (t))), (15, .double (pvF pr it 3 (t))), (17, .int (nI (mn))), (18, .int (nI (t)))]) hx hb dL_goes_115 hl (by decide) rfl (fun ls hl => ?_)
    refine lv_iload hx hb dL_goes_117 (lv_at hl 5 rfl) ?_
    refine lv_bipush (v := nI 10) hx hb dL_goes_119 (by decide) ?_
    refine g_isub hx hb dL_goes_121 (by show nI (12 * t + 3 * it) - nI 10 = nI (12 * t + 3 * it + 2) - nI 12; exact sub_off 2 (by decide)) ?_
    refine lv_dload hx hb dL_goes_122 (lv_at hl 19 rfl) ?_
    refine lv_aload hx hb dL_goes_124 (lv_at hl 15 rfl) ?_
    refine lv_aload hx hb dL_goes_126 (lv_at hl 16 rfl) ?_
    refine gc_S_d (As := [.int (nI (12 * t + 3 * it + 2) - nI 12), .double (pvF pr it 3 (t)), .ref a_zl, .ref a_zr]) (rest := []) (c_L_base l f0_zl f0_zr b_zl b_zr (v9 := b (t * 48 + it * 4 + 0 + 3)) (hB2)) ⟨hx, hb, hml, hown, hts⟩ (va_cwS 4 hts gL_goes_L_base rfl rfl rfl (by decide +kernel) ⟨Nat.le_of_ble_eq_true rfl, Nat.le_of_ble_eq_true rfl⟩) hE hP hD hS hA rfl rfl hl.1 (Nat.le_of_ble_eq_true rfl) dL_goes_128 ⟨Nat.le_of_ble_eq_true rfl, Nat.le_of_ble_eq_true rfl⟩ (fun r_128 u_128 H locs hP hD hS q_128 => ?_)
    subst q_128
    refine lv_dstore (lv' := [(30, .double (b (t * 48 + it * 4 + 0 + 3))), (28, .double (b (t * 48 + it * 4 + 0 + 1))), (26, .double (b (t * 48 + it * 4 + 0 + 0))), (24, .double (o (t * 48 + it * 4 + 0 + 3))), (22, .double (o (t * 48 + it * 4 + 0 + 1))), (20, .double (o (t * 48 + it * 4 + 0 + 0))), (19, .int (nI ((12 * t) + (3 * it)))), (0, .int (nI (it))), (1, .int (nI (mo))), (2, .int (nI (wh))), (3, .int (gb (wf))), (4, .ref a_zi), (5, .ref a_zc), (6, .ref a_zg), (7, .ref a_zf), (8, .ref a_zn), (9, .ref a_zl), (10, .ref a_zr), (11, .double (pvF pr it 0 (t))), (13, .double (pvF pr it 1 (t))), (15, .double (pvF pr it 3 (t))), (17, .int (nI (mn))), (18, .int (nI (t)))]) hx hb dL_goes_131 hl (by decide) rfl (fun ls hl => ?_)
    refine lv_iload hx hb dL_goes_133 (lv_at hl 6 rfl) ?_
    refine lv_dload hx hb dL_goes_135 (lv_at hl 5 rfl) ?_
    refine lv_dload hx hb dL_goes_137 (lv_at hl 2 rfl) ?_
    refine lv_aload hx hb dL_goes_139 (lv_at hl 15 rfl) ?_
    refine gc_S_i (As := [.int (nI ((12 * t) + (3 * it))), .double (o (t * 48 + it * 4 + 0 + 0)), .double (b (t * 48 + it * 4 + 0 + 0)), .ref a_zn]) (rest := []) (c_L_matched l f0_zn b_zn (at1 := 12 * t + 3 * it + 0) (by omega) (h6 0 (by decide)).1 (h6 0 (by decide)).2.1 (h6 0 (by decide)).2.2.1) ⟨hx, hb, hml, hown, hts⟩ (va_cwS 4 hts gL_goes_L_matched rfl rfl rfl (by decide +kernel) ⟨Nat.le_of_ble_eq_true rfl, Nat.le_of_ble_eq_true rfl⟩) hE hP hD hS hA rfl rfl hl.1 (Nat.le_of_ble_eq_true rfl) dL_goes_141 ⟨Nat.le_of_ble_eq_true rfl, Nat.le_of_ble_eq_true rfl⟩ (fun r_141 u_141 H locs hP hD hS q_141 => ?_)
    have q9 := q_141.trans (congrArg gb (h3 0 (by decide)).symm)
    subst q9
    refine lv_istore (lv' := [(32, .int (gb (M (t * 48 + it * 4 + 0 + 0)))), (30, .double (b (t * 48 + it * 4 + 0 + 3))), (28, .double (b (t * 48 + it * 4 + 0 + 1))), (26, .double (b (t * 48 + it * 4 + 0 + 0))), (24, .double (o (t * 48 + it * 4 + 0 + 3))), (22, .double (o (t * 48 + it * 4 + 0 + 1))), (20, .double (o (t * 48 + it * 4 + 0 + 0))), (19, .int (nI ((12 * t) + (3 * it)))), (0, .int (nI (it))), (1, .int (nI (mo))), (2, .int (nI (wh))), (3, .int (gb (wf))), (4, .ref a_zi), (5, .ref a_zc), (6, .ref a_zg), (7, .ref a_zf), (8, .ref a_zn), (9, .ref a_zl), (10, .ref a_zr), (11, .double (pvF pr it 0 (t))), (13, .double (pvF pr it 1 (t))), (15, .double (pvF pr it 3 (t))), (17, .int (nI (mn))), (18, .int (nI (t)))]) hx hb dL_goes_144 hl (by decide) rfl (fun ls hl => ?_)
    refine lv_iload hx hb dL_goes_146 (lv_at hl 7 rfl) ?_
    refine lv_iconst (v := nI 1) hx hb dL_goes_148 (by decide) ?_
    refine g_iadd hx hb dL_goes_149 (nI_add _ _) ?_
    refine lv_dload hx hb dL_goes_150 (lv_at hl 5 rfl) ?_
    refine lv_dload hx hb dL_goes_152 (lv_at hl 2 rfl) ?_
    refine lv_aload hx hb dL_goes_154 (lv_at hl 16 rfl) ?_
    refine gc_S_i (As := [.int (nI (((12 * t) + (3 * it)) + 1)), .double (o (t * 48 + it * 4 + 0 + 1)), .double (b (t * 48 + it * 4 + 0 + 1)), .ref a_zn]) (rest := []) (c_L_matched l f0_zn b_zn (at1 := 12 * t + 3 * it + 1) (by omega) (h6 1 (by decide)).1 (h6 1 (by decide)).2.1 (h6 1 (by decide)).2.2.1) ⟨hx, hb, hml, hown, hts⟩ (va_cwS 4 hts gL_goes_L_matched rfl rfl rfl (by decide +kernel) ⟨Nat.le_of_ble_eq_true rfl, Nat.le_of_ble_eq_true rfl⟩) hE hP hD hS hA rfl rfl hl.1 (Nat.le_of_ble_eq_true rfl) dL_goes_156 ⟨Nat.le_of_ble_eq_true rfl, Nat.le_of_ble_eq_true rfl⟩ (fun r_156 u_156 H locs hP hD hS q_156 => ?_)
    have q9 := q_156.trans (congrArg gb (h3 1 (by decide)).symm)
    subst q9
    refine lv_istore (lv' := [(33, .int (gb (M (t * 48 + it * 4 + 0 + 1)))), (32, .int (gb (M (t * 48 + it * 4 + 0 + 0)))), (30, .double (b (t * 48 + it * 4 + 0 + 3))), (28, .double (b (t * 48 + it * 4 + 0 + 1))), (26, .double (b (t * 48 + it * 4 + 0 + 0))), (24, .double (o (t * 48 + it * 4 + 0 + 3))), (22, .double (o (t * 48 + it * 4 + 0 + 1))), (20, .double (o (t * 48 + it * 4 + 0 + 0))), (19, .int (nI ((12 * t) + (3 * it)))), (0, .int (nI (it))), (1, .int (nI (mo))), (2, .int (nI (wh))), (3, .int (gb (wf))), (4, .ref a_zi), (5, .ref a_zc), (6, .ref a_zg), (7, .ref a_zf), (8, .ref a_zn), (9, .ref a_zl), (10, .ref a_zr), (11, .double (pvF pr it 0 (t))), (13, .double (pvF pr it 1 (t))), (15, .double (pvF pr it 3 (t))), (17, .int (nI (mn))), (18, .int (nI (t)))]) hx hb dL_goes_159 hl (by decide) rfl (fun ls hl => ?_)
    refine lv_iload hx hb dL_goes_161 (lv_at hl 8 rfl) ?_
    refine lv_iconst (v := nI 2) hx hb dL_goes_163 (by decide) ?_
    refine g_iadd hx hb dL_goes_164 (nI_add _ _) ?_
    refine lv_dload hx hb dL_goes_165 (lv_at hl 5 rfl) ?_
    refine lv_dload hx hb dL_goes_167 (lv_at hl 2 rfl) ?_
    refine lv_aload hx hb dL_goes_169 (lv_at hl 17 rfl) ?_
    refine gc_S_i (As := [.int (nI (((12 * t) + (3 * it)) + 2)), .double (o (t * 48 + it * 4 + 0 + 3)), .double (b (t * 48 + it * 4 + 0 + 3)), .ref a_zn]) (rest := []) (c_L_matched l f0_zn b_zn (at1 := 12 * t + 3 * it + 2) (by omega) (h6 2 (by decide)).1 (h6 2 (by decide)).2.1 (h6 2 (by decide)).2.2.1) ⟨hx, hb, hml, hown, hts⟩ (va_cwS 4 hts gL_goes_L_matched rfl rfl rfl (by decide +kernel) ⟨Nat.le_of_ble_eq_true rfl, Nat.le_of_ble_eq_true rfl⟩) hE hP hD hS hA rfl rfl hl.1 (Nat.le_of_ble_eq_true rfl) dL_goes_171 ⟨Nat.le_of_ble_eq_true rfl, Nat.le_of_ble_eq_true rfl⟩ (fun r_171 u_171 H locs hP hD hS q_171 => ?_)
    have q9 := q_171.trans (congrArg gb (h3 2 (by decide)).symm)
    subst q9
    refine lv_istore (lv' := [(34, .int (gb (M (t * 48 + it * 4 + 0 + 3)))), (33, .int (gb (M (t * 48 + it * 4 + 0 + 1)))), (32, .int (gb (M (t * 48 + it * 4 + 0 + 0)))), (30, .double (b (t * 48 + it * 4 + 0 + 3))), (28, .double (b (t * 48 + it * 4 + 0 + 1))), (26, .double (b (t * 48 + it * 4 + 0 + 0))), (24, .double (o (t * 48 + it * 4 + 0 + 3))), (22, .double (o (t * 48 + it * 4 + 0 + 1))), (20, .double (o (t * 48 + it * 4 + 0 + 0))), (19, .int (nI ((12 * t) + (3 * it)))), (0, .int (nI (it))), (1, .int (nI (mo))), (2, .int (nI (wh))), (3, .int (gb (wf))), (4, .ref a_zi), (5, .ref a_zc), (6, .ref a_zg), (7, .ref a_zf), (8, .ref a_zn), (9, .ref a_zl), (10, .ref a_zr), (11, .double (pvF pr it 0 (t))), (13, .double (pvF pr it 1 (t))), (15, .double (pvF pr it 3 (t))), (17, .int (nI (mn))), (18, .int (nI (t)))]) hx hb dL_goes_174 hl (by decide) rfl (fun ls hl => ?_)
    refine g_reg (J := 186) (st1 := [.int (nI (bN (M (t * 48 + it * 4 + 0 + 0))))]) hP hD hS (fun K_186 => ?_) (fun H locs hP hD hS => ?_)
    · refine lv_iload hx hb dL_goes_176 (lv_at hl 2 rfl) ?_
      refine g_bif_eq (tgt := 185) hx hb dL_goes_178 (by decide) (fun c_178 => ?_) (fun c_178 => ?_)
      · refine lv_iconst (v := nI 0) hx hb dL_goes_185 (by decide) ?_
        refine g_iv (v' := (nI (bN (M (t * 48 + it * 4 + 0 + 0))))) ((congrArg nI (bN_f c_178).symm)) ?_
        exact K_186 H locs hP hD hS
      · refine lv_iconst (v := nI 1) hx hb dL_goes_181 (by decide) ?_
        refine lv_goto (tgt := 186) hx hb dL_goes_182 (by decide) ?_
        refine g_iv (v' := (nI (bN (M (t * 48 + it * 4 + 0 + 0))))) ((congrArg nI (bN_t c_178).symm)) ?_
        exact K_186 H locs hP hD hS
    refine g_reg (J := 196) (st1 := [.int (nI (bN (M (t * 48 + it * 4 + 0 + 1)))), .int (nI (bN (M (t * 48 + it * 4 + 0 + 0))))]) hP hD hS (fun K_196 => ?_) (fun H locs hP hD hS => ?_)
    · refine lv_iload hx hb dL_goes_186 (lv_at hl 1 rfl) ?_
      refine g_bif_eq (tgt := 195) hx hb dL_goes_188 (by decide) (fun c_188 => ?_) (fun c_188 => ?_)
      · refine lv_iconst (v := nI 0) hx hb dL_goes_195 (by decide) ?_
        refine g_iv (v' := (nI (bN (M (t * 48 + it * 4 + 0 + 1))))) ((congrArg nI (bN_f c_188).symm)) ?_
        exact K_196 H locs hP hD hS
      · refine lv_iconst (v := nI 1) hx hb dL_goes_191 (by decide) ?_
        refine lv_goto (tgt := 196) hx hb dL_goes_192 (by decide) ?_
        refine g_iv (v' := (nI (bN (M (t * 48 + it * 4 + 0 + 1))))) ((congrArg nI (bN_t c_188).symm)) ?_
        exact K_196 H locs hP hD hS
    refine g_iadd hx hb dL_goes_196 (nI_add _ _) ?_
    refine g_reg (J := 207) (st1 := [.int (nI (bN (M (t * 48 + it * 4 + 0 + 3)))), .int (nI ((bN (M (t * 48 + it * 4 + 0 + 0))) + (bN (M (t * 48 + it * 4 + 0 + 1)))))]) hP hD hS (fun K_207 => ?_) (fun H locs hP hD hS => ?_)
    · refine lv_iload hx hb dL_goes_197 (lv_at hl 0 rfl) ?_
      refine g_bif_eq (tgt := 206) hx hb dL_goes_199 (by decide) (fun c_199 => ?_) (fun c_199 => ?_)
      · refine lv_iconst (v := nI 0) hx hb dL_goes_206 (by decide) ?_
        refine g_iv (v' := (nI (bN (M (t * 48 + it * 4 + 0 + 3))))) ((congrArg nI (bN_f c_199).symm)) ?_
        exact K_207 H locs hP hD hS
      · refine lv_iconst (v := nI 1) hx hb dL_goes_202 (by decide) ?_
        refine lv_goto (tgt := 207) hx hb dL_goes_203 (by decide) ?_
        refine g_iv (v' := (nI (bN (M (t * 48 + it * 4 + 0 + 3))))) ((congrArg nI (bN_t c_199).symm)) ?_
        exact K_207 H locs hP hD hS
    refine g_iadd hx hb dL_goes_207 (nI_add _ _) ?_
    refine g_iv (v' := nI (mN M (t * 48 + it * 4 + 0) 4)) (congrArg nI (mN_4 h4).symm) ?_
    refine lv_istore (lv' := [(35, .int (nI (mN M (t * 48 + it * 4 + 0) 4))), (34, .int (gb (M (t * 48 + it * 4 + 0 + 3)))), (33, .int (gb (M (t * 48 + it * 4 + 0 + 1)))), (32, .int (gb (M (t * 48 + it * 4 + 0 + 0)))), (30, .double (b (t * 48 + it * 4 + 0 + 3))), (28, .double (b (t * 48 + it * 4 + 0 + 1))), (26, .double (b (t * 48 + it * 4 + 0 + 0))), (24, .double (o (t * 48 + it * 4 + 0 + 3))), (22, .double (o (t * 48 + it * 4 + 0 + 1))), (20, .double (o (t * 48 + it * 4 + 0 + 0))), (19, .int (nI ((12 * t) + (3 * it)))), (0, .int (nI (it))), (1, .int (nI (mo))), (2, .int (nI (wh))), (3, .int (gb (wf))), (4, .ref a_zi), (5, .ref a_zc), (6, .ref a_zg), (7, .ref a_zf), (8, .ref a_zn), (9, .ref a_zl), (10, .ref a_zr), (11, .double (pvF pr it 0 (t))), (13, .double (pvF pr it 1 (t))), (15, .double (pvF pr it 3 (t))), (17, .int (nI (mn))), (18, .int (nI (t)))]) hx hb dL_goes_208 hl (by decide) rfl (fun ls hl => ?_)
    refine g_dconst0 hx hb dL_goes_210 ?_
    refine lv_dstore (lv' := [(36, .double 0), (35, .int (nI (mN M (t * 48 + it * 4 + 0) 4))), (34, .int (gb (M (t * 48 + it * 4 + 0 + 3)))), (33, .int (gb (M (t * 48 + it * 4 + 0 + 1)))), (32, .int (gb (M (t * 48 + it * 4 + 0 + 0)))), (30, .double (b (t * 48 + it * 4 + 0 + 3))), (28, .double (b (t * 48 + it * 4 + 0 + 1))), (26, .double (b (t * 48 + it * 4 + 0 + 0))), (24, .double (o (t * 48 + it * 4 + 0 + 3))), (22, .double (o (t * 48 + it * 4 + 0 + 1))), (20, .double (o (t * 48 + it * 4 + 0 + 0))), (19, .int (nI ((12 * t) + (3 * it)))), (0, .int (nI (it))), (1, .int (nI (mo))), (2, .int (nI (wh))), (3, .int (gb (wf))), (4, .ref a_zi), (5, .ref a_zc), (6, .ref a_zg), (7, .ref a_zf), (8, .ref a_zn), (9, .ref a_zl), (10, .ref a_zr), (11, .double (pvF pr it 0 (t))), (13, .double (pvF pr it 1 (t))), (15, .double (pvF pr it 3 (t))), (17, .int (nI (mn))), (18, .int (nI (t)))]) hx hb dL_goes_211 hl (by decide) rfl (fun ls hl => ?_)
    refine g_dconst0 hx hb dL_goes_213 ?_
    refine lv_dstore (lv' := [(38, .double 0), (36, .double 0), (35, .int (nI (mN M (t * 48 + it * 4 + 0) 4))), (34, .int (gb (M (t * 48 + it * 4 + 0 + 3)))), (33, .int (gb (M (t * 48 + it * 4 + 0 + 1)))), (32, .int (gb (M (t * 48 + it * 4 + 0 + 0)))), (30, .double (b (t * 48 + it * 4 + 0 + 3))), (28, .double (b (t * 48 + it * 4 + 0 + 1))), (26, .double (b (t * 48 + it * 4 + 0 + 0))), (24, .double (o (t * 48 + it * 4 + 0 + 3))), (22, .double (o (t * 48 + it * 4 + 0 + 1))), (20, .double (o (t * 48 + it * 4 + 0 + 0))), (19, .int (nI ((12 * t) + (3 * it)))), (0, .int (nI (it))), (1, .int (nI (mo))), (2, .int (nI (wh))), (3, .int (gb (wf))), (4, .ref a_zi), (5, .ref a_zc), (6, .ref a_zg), (7, .ref a_zf), (8, .ref a_zn), (9, .ref a_zl), (10, .ref a_zr), (11, .double (pvF pr it 0 (t))), (13, .double (pvF pr it 1 (t))), (15, .double (pvF pr it 3 (t))), (17, .int (nI (mn))), (18, .int (nI (t)))]) hx hb dL_goes_214 hl (by decide) rfl (fun ls hl => ?_)
    refine g_dconst0 hx hb dL_goes_216 ?_
    refine lv_dstore (lv' := [(40, .double 0), (38, .double 0), (36, .double 0), (35, .int (nI (mN M (t * 48 + it * 4 + 0) 4))), (34, .int (gb (M (t * 48 + it * 4 + 0 + 3)))), (33, .int (gb (M (t * 48 + it * 4 + 0 + 1)))), (32, .int (gb (M (t * 48 + it * 4 + 0 + 0)))), (30, .double (b (t * 48 + it * 4 + 0 + 3))), (28, .double (b (t * 48 + it * 4 + 0 + 1))), (26, .double (b (t * 48 + it * 4 + 0 + 0))), (24, .double (o (t * 48 + it * 4 + 0 + 3))), (22, .double (o (t * 48 + it * 4 + 0 + 1))), (20, .double (o (t * 48 + it * 4 + 0 + 0))), (19, .int (nI ((12 * t) + (3 * it)))), (0, .int (nI (it))), (1, .int (nI (mo))), (2, .int (nI (wh))), (3, .int (gb (wf))), (4, .ref a_zi), (5, .ref a_zc), (6, .ref a_zg), (7, .ref a_zf), (8, .ref a_zn), (9, .ref a_zl), (10, .ref a_zr), (11, .double (pvF pr it 0 (t))), (13, .double (pvF pr it 1 (t))), (15, .double (pvF pr it 3 (t))), (17, .int (nI (mn))), (18, .int (nI (t)))]) hx hb dL_goes_217 hl (by decide) rfl (fun ls hl => ?_)
    refine g_dconst0 hx hb dL_goes_219 ?_
    refine lv_dstore (lv' := [(42, .double 0), (40, .double 0), (38, .double 0), (36, .double 0), (35, .int (nI (mN M (t * 48 + it * 4 + 0) 4))), (34, .int (gb (M (t * 48 + it * 4 + 0 + 3)))), (33, .int (gb (M (t * 48 + it * 4 + 0 + 1)))), (32, .int (gb (M (t * 48 + it * 4 + 0 + 0)))), (30, .double (b (t * 48 + it * 4 + 0 + 3))), (28, .double (b (t * 48 + it * 4 + 0 + 1))), (26, .double (b (t * 48 + it * 4 + 0 + 0))), (24, .double (o (t * 48 + it * 4 + 0 + 3))), (22, .double (o (t * 48 + it * 4 + 0 + 1))), (20, .double (o (t * 48 + it * 4 + 0 + 0))), (19, .int (nI ((12 * t) + (3 * it)))), (0, .int (nI (it))), (1, .int (nI (mo))), (2, .int (nI (wh))), (3, .int (gb (wf))), (4, .ref a_zi), (5, .ref a_zc), (6, .ref a_zg), (7, .ref a_zf), (8, .ref a_zn), (9, .ref a_zl), (10, .ref a_zr), (11, .double (pvF pr it 0 (t))), (13, .double (pvF pr it 1 (t))), (15, .double (pvF pr it 3 (t))), (17, .int (nI (mn))), (18, .int (nI (t)))]) hx hb dL_goes_220 hl (by decide) rfl (fun ls hl => ?_)
    refine g_reg (J := 244) (st1 := [.double (mS M (fO mn o b) (t * 48 + it * 4 + 0) 1)]) hP hD hS (fun K_244 => ?_) (fun H locs hP hD hS => ?_)
    · refine lv_iload hx hb dL_goes_222 (lv_at hl 7 rfl) ?_
      refine g_bif_eq (tgt := 242) hx hb dL_goes_224 (by decide) (fun c_224 => ?_) (fun c_224 => ?_)
      · refine lv_dload hx hb dL_goes_242 (lv_at hl 3 rfl) ?_
        refine g_dv (v' := (mS M (fO mn o b) (t * 48 + it * 4 + 0) 1)) ((mS_1f (f := fO mn o b) c_224)) ?_
        exact K_244 H locs hP hD hS
      · refine lv_dload hx hb dL_goes_227 (lv_at hl 3 rfl) ?_
        refine lv_iload hx hb dL_goes_229 (lv_at hl 29 rfl) ?_
        refine lv_dload hx hb dL_goes_231 (lv_at hl 13 rfl) ?_
        refine lv_dload hx hb dL_goes_233 (lv_at hl 10 rfl) ?_
        refine gc_S_d (As := [.int (nI (mn)), .double (o (t * 48 + it * 4 + 0 + 0)), .double (b (t * 48 + it * 4 + 0 + 0))]) (rest := [.double 0]) (c_L_of l (mn := mn) hmn (nnQ h7 (j := 0) (by decide) c_224).1 (nnQ h7 (j := 0) (by decide) c_224).2) ⟨hx, hb, hml, hown, hts⟩ (va_cwS 3 hts gL_goes_L_of rfl rfl rfl (by decide +kernel) ⟨Nat.le_of_ble_eq_true rfl, Nat.le_of_ble_eq_true rfl⟩) hE hP hD hS hA rfl rfl hl.1 (Nat.le_of_ble_eq_true rfl) dL_goes_235 ⟨Nat.le_of_ble_eq_true rfl, Nat.le_of_ble_eq_true rfl⟩ (fun r_235 u_235 H locs hP hD hS q_235 => ?_)
        subst q_235
        refine lv_dadd hx hb dL_goes_238 (nnA h7 (j := 0) (by decide) c_224) ?_
        refine lv_goto (tgt := 244) hx hb dL_goes_239 (by decide) ?_
        refine g_dv (v' := (mS M (fO mn o b) (t * 48 + it * 4 + 0) 1)) ((mS_1t (f := fO mn o b) c_224)) ?_
        exact K_244 H locs hP hD hS
    refine lv_dstore (lv' := [(36, .double (mS M (fO mn o b) (t * 48 + it * 4 + 0) 1)), (42, .double 0), (40, .double 0), (38, .double 0), (35, .int (nI (mN M (t * 48 + it * 4 + 0) 4))), (34, .int (gb (M (t * 48 + it * 4 + 0 + 3)))), (33, .int (gb (M (t * 48 + it * 4 + 0 + 1)))), (32, .int (gb (M (t * 48 + it * 4 + 0 + 0)))), (30, .double (b (t * 48 + it * 4 + 0 + 3))), (28, .double (b (t * 48 + it * 4 + 0 + 1))), (26, .double (b (t * 48 + it * 4 + 0 + 0))), (24, .double (o (t * 48 + it * 4 + 0 + 3))), (22, .double (o (t * 48 + it * 4 + 0 + 1))), (20, .double (o (t * 48 + it * 4 + 0 + 0))), (19, .int (nI ((12 * t) + (3 * it)))), (0, .int (nI (it))), (1, .int (nI (mo))), (2, .int (nI (wh))), (3, .int (gb (wf))), (4, .ref a_zi), (5, .ref a_zc), (6, .ref a_zg), (7, .ref a_zf), (8, .ref a_zn), (9, .ref a_zl), (10, .ref a_zr), (11, .double (pvF pr it 0 (t))), (13, .double (pvF pr it 1 (t))), (15, .double (pvF pr it 3 (t))), (17, .int (nI (mn))), (18, .int (nI (t)))]) hx hb dL_goes_244 hl (by decide) rfl (fun ls hl => ?_)
    refine g_reg (J := 261) (st1 := [.double (mS M (b) (t * 48 + it * 4 + 0) 1)]) hP hD hS (fun K_261 => ?_) (fun H locs hP hD hS => ?_)
    · refine lv_iload hx hb dL_goes_246 (lv_at hl 7 rfl) ?_
      refine g_bif_eq (tgt := 259) hx hb dL_goes_248 (by decide) (fun c_248 => ?_) (fun c_248 => ?_)
      · refine lv_dload hx hb dL_goes_259 (lv_at hl 3 rfl) ?_
        refine g_dv (v' := (mS M (b) (t * 48 + it * 4 + 0) 1)) ((mS_1f (f := b) c_248)) ?_
        exact K_261 H locs hP hD hS
      · refine lv_dload hx hb dL_goes_251 (lv_at hl 3 rfl) ?_
        refine lv_dload hx hb dL_goes_253 (lv_at hl 10 rfl) ?_
        refine lv_dadd hx hb dL_goes_255 (nnB h7 (j := 0) (by decide) c_248) ?_
        refine lv_goto (tgt := 261) hx hb dL_goes_256 (by decide) ?_
        refine g_dv (v' := (mS M (b) (t * 48 + it * 4 + 0) 1)) ((mS_1t (f := b) c_248)) ?_
        exact K_261 H locs hP hD hS
    refine lv_dstore (lv' := [(38, .double (mS M (b) (t * 48 + it * 4 + 0) 1)), (36, .double (mS M (fO mn o b) (t * 48 + it * 4 + 0) 1)), (42, .double 0), (40, .double 0), (35, .int (nI (mN M (t * 48 + it * 4 + 0) 4))), (34, .int (gb (M (t * 48 + it * 4 + 0 + 3)))), (33, .int (gb (M (t * 48 + it * 4 + 0 + 1)))), (32, .int (gb (M (t * 48 + it * 4 + 0 + 0)))), (30, .double (b (t * 48 + it * 4 + 0 + 3))), (28, .double (b (t * 48 + it * 4 + 0 + 1))), (26, .double (b (t * 48 + it * 4 + 0 + 0))), (24, .double (o (t * 48 + it * 4 + 0 + 3))), (22, .double (o (t * 48 + it * 4 + 0 + 1))), (20, .double (o (t * 48 + it * 4 + 0 + 0))), (19, .int (nI ((12 * t) + (3 * it)))), (0, .int (nI (it))), (1, .int (nI (mo))), (2, .int (nI (wh))), (3, .int (gb (wf))), (4, .ref a_zi), (5, .ref a_zc), (6, .ref a_zg), (7, .ref a_zf), (8, .ref a_zn), (9, .ref a_zl), (10, .ref a_zr), (11, .double (pvF pr it 0 (t))), (13, .double (pvF pr it 1 (t))), (15, .double (pvF pr it 3 (t))), (17, .int (nI (mn))), (18, .int (nI (t)))]) hx hb dL_goes_261 hl (by decide) rfl (fun ls hl => ?_)
    refine g_reg (J := 285) (st1 := [.double (mS M (fO mn b o) (t * 48 + it * 4 + 0) 1)]) hP hD hS (fun K_285 => ?_) (fun H locs hP hD hS => ?_)
    · refine lv_iload hx hb dL_goes_263 (lv_at hl 7 rfl) ?_
      refine g_bif_eq (tgt := 283) hx hb dL_goes_265 (by decide) (fun c_265 => ?_) (fun c_265 => ?_)
      · refine lv_dload hx hb dL_goes_283 (lv_at hl 3 rfl) ?_
        refine g_dv (v' := (mS M (fO mn b o) (t * 48 + it * 4 + 0) 1)) ((mS_1f (f := fO mn b o) c_265)) ?_
        exact K_285 H locs hP hD hS
      · refine lv_dload hx hb dL_goes_268 (lv_at hl 3 rfl) ?_
        refine lv_iload hx hb dL_goes_270 (lv_at hl 29 rfl) ?_
        refine lv_dload hx hb dL_goes_272 (lv_at hl 10 rfl) ?_
        refine lv_dload hx hb dL_goes_274 (lv_at hl 13 rfl) ?_
        refine gc_S_d (As := [.int (nI (mn)), .double (b (t * 48 + it * 4 + 0 + 0)), .double (o (t * 48 + it * 4 + 0 + 0))]) (rest := [.double 0]) (c_L_of l (mn := mn) hmn (nnQ h8 (j := 0) (by decide) c_265).1 (nnQ h8 (j := 0) (by decide) c_265).2) ⟨hx, hb, hml, hown, hts⟩ (va_cwS 3 hts gL_goes_L_of rfl rfl rfl (by decide +kernel) ⟨Nat.le_of_ble_eq_true rfl, Nat.le_of_ble_eq_true rfl⟩) hE hP hD hS hA rfl rfl hl.1 (Nat.le_of_ble_eq_true rfl) dL_goes_276 ⟨Nat.le_of_ble_eq_true rfl, Nat.le_of_ble_eq_true rfl⟩ (fun r_276 u_276 H locs hP hD hS q_276 => ?_)
        subst q_276
        refine lv_dadd hx hb dL_goes_279 (nnA h8 (j := 0) (by decide) c_265) ?_
        refine lv_goto (tgt := 285) hx hb dL_goes_280 (by decide) ?_
        refine g_dv (v' := (mS M (fO mn b o) (t * 48 + it * 4 + 0) 1)) ((mS_1t (f := fO mn b o) c_265)) ?_
        exact K_285 H locs hP hD hS
    refine lv_dstore (lv' := [(40, .double (mS M (fO mn b o) (t * 48 + it * 4 + 0) 1)), (38, .double (mS M (b) (t * 48 + it * 4 + 0) 1)), (36, .double (mS M (fO mn o b) (t * 48 + it * 4 + 0) 1)), (42, .double 0), (35, .int (nI (mN M (t * 48 + it * 4 + 0) 4))), (34, .int (gb (M (t * 48 + it * 4 + 0 + 3)))), (33, .int (gb (M (t * 48 + it * 4 + 0 + 1)))), (32, .int (gb (M (t * 48 + it * 4 + 0 + 0)))), (30, .double (b (t * 48 + it * 4 + 0 + 3))), (28, .double (b (t * 48 + it * 4 + 0 + 1))), (26, .double (b (t * 48 + it * 4 + 0 + 0))), (24, .double (o (t * 48 + it * 4 + 0 + 3))), (22, .double (o (t * 48 + it * 4 + 0 + 1))), (20, .double (o (t * 48 + it * 4 + 0 + 0))), (19, .int (nI ((12 * t) + (3 * it)))), (0, .int (nI (it))), (1, .int (nI (mo))), (2, .int (nI (wh))), (3, .int (gb (wf))), (4, .ref a_zi), (5, .ref a_zc), (6, .ref a_zg), (7, .ref a_zf), (8, .ref a_zn), (9, .ref a_zl), (10, .ref a_zr), (11, .double (pvF pr it 0 (t))), (13, .double (pvF pr it 1 (t))), (15, .double (pvF pr it 3 (t))), (17, .int (nI (mn))), (18, .int (nI (t)))]) hx hb dL_goes_285 hl (by decide) rfl (fun ls hl => ?_)
    refine g_reg (J := 302) (st1 := [.double (mS M (o) (t * 48 + it * 4 + 0) 1)]) hP hD hS (fun K_302 => ?_) (fun H locs hP hD hS => ?_)
    · refine lv_iload hx hb dL_goes_287 (lv_at hl 7 rfl) ?_
      refine g_bif_eq (tgt := 300) hx hb dL_goes_289 (by decide) (fun c_289 => ?_) (fun c_289 => ?_)
      · refine lv_dload hx hb dL_goes_300 (lv_at hl 3 rfl) ?_
        refine g_dv (v' := (mS M (o) (t * 48 + it * 4 + 0) 1)) ((mS_1f (f := o) c_289)) ?_
        exact K_302 H locs hP hD hS
      · refine lv_dload hx hb dL_goes_292 (lv_at hl 3 rfl) ?_
        refine lv_dload hx hb dL_goes_294 (lv_at hl 13 rfl) ?_
        refine lv_dadd hx hb dL_goes_296 (nnB h8 (j := 0) (by decide) c_289) ?_
        refine lv_goto (tgt := 302) hx hb dL_goes_297 (by decide) ?_
        refine g_dv (v' := (mS M (o) (t * 48 + it * 4 + 0) 1)) ((mS_1t (f := o) c_289)) ?_
        exact K_302 H locs hP hD hS
    refine lv_dstore (lv' := [(42, .double (mS M (o) (t * 48 + it * 4 + 0) 1)), (40, .double (mS M (fO mn b o) (t * 48 + it * 4 + 0) 1)), (38, .double (mS M (b) (t * 48 + it * 4 + 0) 1)), (36, .double (mS M (fO mn o b) (t * 48 + it * 4 + 0) 1)), (35, .int (nI (mN M (t * 48 + it * 4 + 0) 4))), (34, .int (gb (M (t * 48 + it * 4 + 0 + 3)))), (33, .int (gb (M (t * 48 + it * 4 + 0 + 1)))), (32, .int (gb (M (t * 48 + it * 4 + 0 + 0)))), (30, .double (b (t * 48 + it * 4 + 0 + 3))), (28, .double (b (t * 48 + it * 4 + 0 + 1))), (26, .double (b (t * 48 + it * 4 + 0 + 0))), (24, .double (o (t * 48 + it * 4 + 0 + 3))), (22, .double (o (t * 48 + it * 4 + 0 + 1))), (20, .double (o (t * 48 + it * 4 + 0 + 0))), (19, .int (nI ((12 * t) + (3 * it)))), (0, .int (nI (it))), (1, .int (nI (mo))), (2, .int (nI (wh))), (3, .int (gb (wf))), (4, .ref a_zi), (5, .ref a_zc), (6, .ref a_zg), (7, .ref a_zf), (8, .ref a_zn), (9, .ref a_zl), (10, .ref a_zr), (11, .double (pvF pr it 0 (t))), (13, .double (pvF pr it 1 (t))), (15, .double (pvF pr it 3 (t))), (17, .int (nI (mn))), (18, .int (nI (t)))]) hx hb dL_goes_302 hl (by decide) rfl (fun ls hl => ?_)
    refine g_reg (J := 326) (st1 := [.double (mS M (fO mn o b) (t * 48 + it * 4 + 0) 2)]) hP hD hS (fun K_326 => ?_) (fun H locs hP hD hS => ?_)
    · refine lv_iload hx hb dL_goes_304 (lv_at hl 6 rfl) ?_
      refine g_bif_eq (tgt := 324) hx hb dL_goes_306 (by decide) (fun c_306 => ?_) (fun c_306 => ?_)
      · refine lv_dload hx hb dL_goes_324 (lv_at hl 3 rfl) ?_
        refine g_dv (v' := (mS M (fO mn o b) (t * 48 + it * 4 + 0) 2)) ((mS_2f (f := fO mn o b) c_306)) ?_
        exact K_326 H locs hP hD hS
      · refine lv_dload hx hb dL_goes_309 (lv_at hl 3 rfl) ?_
        refine lv_iload hx hb dL_goes_311 (lv_at hl 29 rfl) ?_
        refine lv_dload hx hb dL_goes_313 (lv_at hl 12 rfl) ?_
        refine lv_dload hx hb dL_goes_315 (lv_at hl 9 rfl) ?_
        refine gc_S_d (As := [.int (nI (mn)), .double (o (t * 48 + it * 4 + 0 + 1)), .double (b (t * 48 + it * 4 + 0 + 1))]) (rest := [.double (mS M (fO mn o b) (t * 48 + it * 4 + 0) 1)]) (c_L_of l (mn := mn) hmn (nnQ h7 (j := 1) (by decide) c_306).1 (nnQ h7 (j := 1) (by decide) c_306).2) ⟨hx, hb, hml, hown, hts⟩ (va_cwS 3 hts gL_goes_L_of rfl rfl rfl (by decide +kernel) ⟨Nat.le_of_ble_eq_true rfl, Nat.le_of_ble_eq_true rfl⟩) hE hP hD hS hA rfl rfl hl.1 (Nat.le_of_ble_eq_true rfl) dL_goes_317 ⟨Nat.le_of_ble_eq_true rfl, Nat.le_of_ble_eq_true rfl⟩ (fun r_317 u_317 H locs hP hD hS q_317 => ?_)
        subst q_317
        refine lv_dadd hx hb dL_goes_320 (nnA h7 (j := 1) (by decide) c_306) ?_
        refine lv_goto (tgt := 326) hx hb dL_goes_321 (by decide) ?_
        refine g_dv (v' := (mS M (fO mn o b) (t * 48 + it * 4 + 0) 2)) ((mS_2t (f := fO mn o b) c_306)) ?_
        exact K_326 H locs hP hD hS
    refine lv_dstore (lv' := [(36, .double (mS M (fO mn o b) (t * 48 + it * 4 + 0) 2)), (42, .double (mS M (o) (t * 48 + it * 4 + 0) 1)), (40, .double (mS M (fO mn b o) (t * 48 + it * 4 + 0) 1)), (38, .double (mS M (b) (t * 48 + it * 4 + 0) 1)), (35, .int (nI (mN M (t * 48 + it * 4 + 0) 4))), (34, .int (gb (M (t * 48 + it * 4 + 0 + 3)))), (33, .int (gb (M (t * 48 + it * 4 + 0 + 1)))), (32, .int (gb (M (t * 48 + it * 4 + 0 + 0)))), (30, .double (b (t * 48 + it * 4 + 0 + 3))), (28, .double (b (t * 48 + it * 4 + 0 + 1))), (26, .double (b (t * 48 + it * 4 + 0 + 0))), (24, .double (o (t * 48 + it * 4 + 0 + 3))), (22, .double (o (t * 48 + it * 4 + 0 + 1))), (20, .double (o (t * 48 + it * 4 + 0 + 0))), (19, .int (nI ((12 * t) + (3 * it)))), (0, .int (nI (it))), (1, .int (nI (mo))), (2, .int (nI (wh))), (3, .int (gb (wf))), (4, .ref a_zi), (5, .ref a_zc), (6, .ref a_zg), (7, .ref a_zf), (8, .ref a_zn), (9, .ref a_zl), (10, .ref a_zr), (11, .double (pvF pr it 0 (t))), (13, .double (pvF pr it 1 (t))), (15, .double (pvF pr it 3 (t))), (17, .int (nI (mn))), (18, .int (nI (t)))]) hx hb dL_goes_326 hl (by decide) rfl (fun ls hl => ?_)
    refine g_reg (J := 343) (st1 := [.double (mS M (b) (t * 48 + it * 4 + 0) 2)]) hP hD hS (fun K_343 => ?_) (fun H locs hP hD hS => ?_)
    · refine lv_iload hx hb dL_goes_328 (lv_at hl 6 rfl) ?_
      refine g_bif_eq (tgt := 341) hx hb dL_goes_330 (by decide) (fun c_330 => ?_) (fun c_330 => ?_)
      · refine lv_dload hx hb dL_goes_341 (lv_at hl 3 rfl) ?_
        refine g_dv (v' := (mS M (b) (t * 48 + it * 4 + 0) 2)) ((mS_2f (f := b) c_330)) ?_
        exact K_343 H locs hP hD hS
      · refine lv_dload hx hb dL_goes_333 (lv_at hl 3 rfl) ?_
        refine lv_dload hx hb dL_goes_335 (lv_at hl 9 rfl) ?_
        refine lv_dadd hx hb dL_goes_337 (nnB h7 (j := 1) (by decide) c_330) ?_
        refine lv_goto (tgt := 343) hx hb dL_goes_338 (by decide) ?_
        refine g_dv (v' := (mS M (b) (t * 48 + it * 4 + 0) 2)) ((mS_2t (f := b) c_330)) ?_
        exact K_343 H locs hP hD hS
    refine lv_dstore (lv' := [(38, .double (mS M (b) (t * 48 + it * 4 + 0) 2)), (36, .double (mS M (fO mn o b) (t * 48 + it * 4 + 0) 2)), (42, .double (mS M (o) (t * 48 + it * 4 + 0) 1)), (40, .double (mS M (fO mn b o) (t * 48 + it * 4 + 0) 1)), (35, .int (nI (mN M (t * 48 + it * 4 + 0) 4))), (34, .int (gb (M (t * 48 + it * 4 + 0 + 3)))), (33, .int (gb (M (t * 48 + it * 4 + 0 + 1)))), (32, .int (gb (M (t * 48 + it * 4 + 0 + 0)))), (30, .double (b (t * 48 + it * 4 + 0 + 3))), (28, .double (b (t * 48 + it * 4 + 0 + 1))), (26, .double (b (t * 48 + it * 4 + 0 + 0))), (24, .double (o (t * 48 + it * 4 + 0 + 3))), (22, .double (o (t * 48 + it * 4 + 0 + 1))), (20, .double (o (t * 48 + it * 4 + 0 + 0))), (19, .int (nI ((12 * t) + (3 * it)))), (0, .int (nI (it))), (1, .int (nI (mo))), (2, .int (nI (wh))), (3, .int (gb (wf))), (4, .ref a_zi), (5, .ref a_zc), (6, .ref a_zg), (7, .ref a_zf), (8, .ref a_zn), (9, .ref a_zl), (10, .ref a_zr), (11, .double (pvF pr it 0 (t))), (13, .double (pvF pr it 1 (t))), (15, .double (pvF pr it 3 (t))), (17, .int (nI (mn))), (18, .int (nI (t)))]) hx hb dL_goes_343 hl (by decide) rfl (fun ls hl => ?_)
    refine g_reg (J := 367) (st1 := [.double (mS M (fO mn b o) (t * 48 + it * 4 + 0) 2)]) hP hD hS (fun K_367 => ?_) (fun H locs hP hD hS => ?_)
    · refine lv_iload hx hb dL_goes_345 (lv_at hl 6 rfl) ?_
      refine g_bif_eq (tgt := 365) hx hb dL_goes_347 (by decide) (fun c_347 => ?_) (fun c_347 => ?_)
      · refine lv_dload hx hb dL_goes_365 (lv_at hl 3 rfl) ?_
        refine g_dv (v' := (mS M (fO mn b o) (t * 48 + it * 4 + 0) 2)) ((mS_2f (f := fO mn b o) c_347)) ?_
        exact K_367 H locs hP hD hS
      · refine lv_dload hx hb dL_goes_350 (lv_at hl 3 rfl) ?_
        refine lv_iload hx hb dL_goes_352 (lv_at hl 29 rfl) ?_
        refine lv_dload hx hb dL_goes_354 (lv_at hl 9 rfl) ?_
        refine lv_dload hx hb dL_goes_356 (lv_at hl 12 rfl) ?_
        refine gc_S_d (As := [.int (nI (mn)), .double (b (t * 48 + it * 4 + 0 + 1)), .double (o (t * 48 + it * 4 + 0 + 1))]) (rest := [.double (mS M (fO mn b o) (t * 48 + it * 4 + 0) 1)]) (c_L_of l (mn := mn) hmn (nnQ h8 (j := 1) (by decide) c_347).1 (nnQ h8 (j := 1) (by decide) c_347).2) ⟨hx, hb, hml, hown, hts⟩ (va_cwS 3 hts gL_goes_L_of rfl rfl rfl (by decide +kernel) ⟨Nat.le_of_ble_eq_true rfl, Nat.le_of_ble_eq_true rfl⟩) hE hP hD hS hA rfl rfl hl.1 (Nat.le_of_ble_eq_true rfl) dL_goes_358 ⟨Nat.le_of_ble_eq_true rfl, Nat.le_of_ble_eq_true rfl⟩ (fun r_358 u_358 H locs hP hD hS q_358 => ?_)
        subst q_358
        refine lv_dadd hx hb dL_goes_361 (nnA h8 (j := 1) (by decide) c_347) ?_
        refine lv_goto (tgt := 367) hx hb dL_goes_362 (by decide) ?_
        refine g_dv (v' := (mS M (fO mn b o) (t * 48 + it * 4 + 0) 2)) ((mS_2t (f := fO mn b o) c_347)) ?_
        exact K_367 H locs hP hD hS
    refine lv_dstore (lv' := [(40, .double (mS M (fO mn b o) (t * 48 + it * 4 + 0) 2)), (38, .double (mS M (b) (t * 48 + it * 4 + 0) 2)), (36, .double (mS M (fO mn o b) (t * 48 + it * 4 + 0) 2)), (42, .double (mS M (o) (t * 48 + it * 4 + 0) 1)), (35, .int (nI (mN M (t * 48 + it * 4 + 0) 4))), (34, .int (gb (M (t * 48 + it * 4 + 0 + 3)))), (33, .int (gb (M (t * 48 + it * 4 + 0 + 1)))), (32, .int (gb (M (t * 48 + it * 4 + 0 + 0)))), (30, .double (b (t * 48 + it * 4 + 0 + 3))), (28, .double (b (t * 48 + it * 4 + 0 + 1))), (26, .double (b (t * 48 + it * 4 + 0 + 0))), (24, .double (o (t * 48 + it * 4 + 0 + 3))), (22, .double (o (t * 48 + it * 4 + 0 + 1))), (20, .double (o (t * 48 + it * 4 + 0 + 0))), (19, .int (nI ((12 * t) + (3 * it)))), (0, .int (nI (it))), (1, .int (nI (mo))), (2, .int (nI (wh))), (3, .int (gb (wf))), (4, .ref a_zi), (5, .ref a_zc), (6, .ref a_zg), (7, .ref a_zf), (8, .ref a_zn), (9, .ref a_zl), (10, .ref a_zr), (11, .double (pvF pr it 0 (t))), (13, .double (pvF pr it 1 (t))), (15, .double (pvF pr it 3 (t))), (17, .int (nI (mn))), (18, .int (nI (t)))]) hx hb dL_goes_367 hl (by decide) rfl (fun ls hl => ?_)
    refine g_reg (J := 384) (st1 := [.double (mS M (o) (t * 48 + it * 4 + 0) 2)]) hP hD hS (fun K_384 => ?_) (fun H locs hP hD hS => ?_)
    · refine lv_iload hx hb dL_goes_369 (lv_at hl 6 rfl) ?_
      refine g_bif_eq (tgt := 382) hx hb dL_goes_371 (by decide) (fun c_371 => ?_) (fun c_371 => ?_)
      · refine lv_dload hx hb dL_goes_382 (lv_at hl 3 rfl) ?_
        refine g_dv (v' := (mS M (o) (t * 48 + it * 4 + 0) 2)) ((mS_2f (f := o) c_371)) ?_
        exact K_384 H locs hP hD hS
      · refine lv_dload hx hb dL_goes_374 (lv_at hl 3 rfl) ?_
        refine lv_dload hx hb dL_goes_376 (lv_at hl 12 rfl) ?_
        refine lv_dadd hx hb dL_goes_378 (nnB h8 (j := 1) (by decide) c_371) ?_
        refine lv_goto (tgt := 384) hx hb dL_goes_379 (by decide) ?_
        refine g_dv (v' := (mS M (o) (t * 48 + it * 4 + 0) 2)) ((mS_2t (f := o) c_371)) ?_
        exact K_384 H locs hP hD hS
    refine lv_dstore (lv' := [(42, .double (mS M (o) (t * 48 + it * 4 + 0) 2)), (40, .double (mS M (fO mn b o) (t * 48 + it * 4 + 0) 2)), (38, .double (mS M (b) (t * 48 + it * 4 + 0) 2)), (36, .double (mS M (fO mn o b) (t * 48 + it * 4 + 0) 2)), (35, .int (nI (mN M (t * 48 + it * 4 + 0) 4))), (34, .int (gb (M (t * 48 + it * 4 + 0 + 3)))), (33, .int (gb (M (t * 48 + it * 4 + 0 + 1)))), (32, .int (gb (M (t * 48 + it * 4 + 0 + 0)))), (30, .double (b (t * 48 + it * 4 + 0 + 3))), (28, .double (b (t * 48 + it * 4 + 0 + 1))), (26, .double (b (t * 48 + it * 4 + 0 + 0))), (24, .double (o (t * 48 + it * 4 + 0 + 3))), (22, .double (o (t * 48 + it * 4 + 0 + 1))), (20, .double (o (t * 48 + it * 4 + 0 + 0))), (19, .int (nI ((12 * t) + (3 * it)))), (0, .int (nI (it))), (1, .int (nI (mo))), (2, .int (nI (wh))), (3, .int (gb (wf))), (4, .ref a_zi), (5, .ref a_zc), (6, .ref a_zg), (7, .ref a_zf), (8, .ref a_zn), (9, .ref a_zl), (10, .ref a_zr), (11, .double (pvF pr it 0 (t))), (13, .double (pvF pr it 1 (t))), (15, .double (pvF pr it 3 (t))), (17, .int (nI (mn))), (18, .int (nI (t)))]) hx hb dL_goes_384 hl (by decide) rfl (fun ls hl => ?_)
    refine g_reg (J := 408) (st1 := [.double (mS M (fO mn o b) (t * 48 + it * 4 + 0) 4)]) hP hD hS (fun K_408 => ?_) (fun H locs hP hD hS => ?_)
    · refine lv_iload hx hb dL_goes_386 (lv_at hl 5 rfl) ?_
      refine g_bif_eq (tgt := 406) hx hb dL_goes_388 (by decide) (fun c_388 => ?_) (fun c_388 => ?_)
      · refine lv_dload hx hb dL_goes_406 (lv_at hl 3 rfl) ?_
        refine g_dv (v' := (mS M (fO mn o b) (t * 48 + it * 4 + 0) 4)) ((mS_4f (f := fO mn o b) h4 c_388)) ?_
        exact K_408 H locs hP hD hS
      · refine lv_dload hx hb dL_goes_391 (lv_at hl 3 rfl) ?_
        refine lv_iload hx hb dL_goes_393 (lv_at hl 29 rfl) ?_
        refine lv_dload hx hb dL_goes_395 (lv_at hl 11 rfl) ?_
        refine lv_dload hx hb dL_goes_397 (lv_at hl 8 rfl) ?_
        refine gc_S_d (As := [.int (nI (mn)), .double (o (t * 48 + it * 4 + 0 + 3)), .double (b (t * 48 + it * 4 + 0 + 3))]) (rest := [.double (mS M (fO mn o b) (t * 48 + it * 4 + 0) 2)]) (c_L_of l (mn := mn) hmn (nnQ h7 (j := 3) (by decide) c_388).1 (nnQ h7 (j := 3) (by decide) c_388).2) ⟨hx, hb, hml, hown, hts⟩ (va_cwS 3 hts gL_goes_L_of rfl rfl rfl (by decide +kernel) ⟨Nat.le_of_ble_eq_true rfl, Nat.le_of_ble_eq_true rfl⟩) hE hP hD hS hA rfl rfl hl.1 (Nat.le_of_ble_eq_true rfl) dL_goes_399 ⟨Nat.le_of_ble_eq_true rfl, Nat.le_of_ble_eq_true rfl⟩ (fun r_399 u_399 H locs hP hD hS q_399 => ?_)
        subst q_399
        refine lv_dadd hx hb dL_goes_402 (nnA3 h7 h4 c_388) ?_
        refine lv_goto (tgt := 408) hx hb dL_goes_403 (by decide) ?_
        refine g_dv (v' := (mS M (fO mn o b) (t * 48 + it * 4 + 0) 4)) ((mS_4t (f := fO mn o b) h4 c_388)) ?_
        exact K_408 H locs hP hD hS
    refine lv_dstore (lv' := [(36, .double (mS M (fO mn o b) (t * 48 + it * 4 + 0) 4)), (42, .double (mS M (o) (t * 48 + it * 4 + 0) 2)), (40, .double (mS M (fO mn b o) (t * 48 + it * 4 + 0) 2)), (38, .double (mS M (b) (t * 48 + it * 4 + 0) 2)), (35, .int (nI (mN M (t * 48 + it * 4 + 0) 4))), (34, .int (gb (M (t * 48 + it * 4 + 0 + 3)))), (33, .int (gb (M (t * 48 + it * 4 + 0 + 1)))), (32, .int (gb (M (t * 48 + it * 4 + 0 + 0)))), (30, .double (b (t * 48 + it * 4 + 0 + 3))), (28, .double (b (t * 48 + it * 4 + 0 + 1))), (26, .double (b (t * 48 + it * 4 + 0 + 0))), (24, .double (o (t * 48 + it * 4 + 0 + 3))), (22, .double (o (t * 48 + it * 4 + 0 + 1))), (20, .double (o (t * 48 + it * 4 + 0 + 0))), (19, .int (nI ((12 * t) + (3 * it)))), (0, .int (nI (it))), (1, .int (nI (mo))), (2, .int (nI (wh))), (3, .int (gb (wf))), (4, .ref a_zi), (5, .ref a_zc), (6, .ref a_zg), (7, .ref a_zf), (8, .ref a_zn), (9, .ref a_zl), (10, .ref a_zr), (11, .double (pvF pr it 0 (t))), (13, .double (pvF pr it 1 (t))), (15, .double (pvF pr it 3 (t))), (17, .int (nI (mn))), (18, .int (nI (t)))]) hx hb dL_goes_408 hl (by decide) rfl (fun ls hl => ?_)
    refine g_reg (J := 425) (st1 := [.double (mS M (b) (t * 48 + it * 4 + 0) 4)]) hP hD hS (fun K_425 => ?_) (fun H locs hP hD hS => ?_)
    · refine lv_iload hx hb dL_goes_410 (lv_at hl 5 rfl) ?_
      refine g_bif_eq (tgt := 423) hx hb dL_goes_412 (by decide) (fun c_412 => ?_) (fun c_412 => ?_)
      · refine lv_dload hx hb dL_goes_423 (lv_at hl 3 rfl) ?_
        refine g_dv (v' := (mS M (b) (t * 48 + it * 4 + 0) 4)) ((mS_4f (f := b) h4 c_412)) ?_
        exact K_425 H locs hP hD hS
      · refine lv_dload hx hb dL_goes_415 (lv_at hl 3 rfl) ?_
        refine lv_dload hx hb dL_goes_417 (lv_at hl 8 rfl) ?_
        refine lv_dadd hx hb dL_goes_419 (nnB3 h7 h4 c_412) ?_
        refine lv_goto (tgt := 425) hx hb dL_goes_420 (by decide) ?_
        refine g_dv (v' := (mS M (b) (t * 48 + it * 4 + 0) 4)) ((mS_4t (f := b) h4 c_412)) ?_
        exact K_425 H locs hP hD hS
    refine lv_dstore (lv' := [(38, .double (mS M (b) (t * 48 + it * 4 + 0) 4)), (36, .double (mS M (fO mn o b) (t * 48 + it * 4 + 0) 4)), (42, .double (mS M (o) (t * 48 + it * 4 + 0) 2)), (40, .double (mS M (fO mn b o) (t * 48 + it * 4 + 0) 2)), (35, .int (nI (mN M (t * 48 + it * 4 + 0) 4))), (34, .int (gb (M (t * 48 + it * 4 + 0 + 3)))), (33, .int (gb (M (t * 48 + it * 4 + 0 + 1)))), (32, .int (gb (M (t * 48 + it * 4 + 0 + 0)))), (30, .double (b (t * 48 + it * 4 + 0 + 3))), (28, .double (b (t * 48 + it * 4 + 0 + 1))), (26, .double (b (t * 48 + it * 4 + 0 + 0))), (24, .double (o (t * 48 + it * 4 + 0 + 3))), (22, .double (o (t * 48 + it * 4 + 0 + 1))), (20, .double (o (t * 48 + it * 4 + 0 + 0))), (19, .int (nI ((12 * t) + (3 * it)))), (0, .int (nI (it))), (1, .int (nI (mo))), (2, .int (nI (wh))), (3, .int (gb (wf))), (4, .ref a_zi), (5, .ref a_zc), (6, .ref a_zg), (7, .ref a_zf), (8, .ref a_zn), (9, .ref a_zl), (10, .ref a_zr), (11, .double (pvF pr it 0 (t))), (13, .double (pvF pr it 1 (t))), (15, .double (pvF pr it 3 (t))), (17, .int (nI (mn))), (18, .int (nI (t)))]) hx hb dL_goes_425 hl (by decide) rfl (fun ls hl => ?_)
    refine g_reg (J := 449) (st1 := [.double (mS M (fO mn b o) (t * 48 + it * 4 + 0) 4)]) hP hD hS (fun K_449 => ?_) (fun H locs hP hD hS => ?_)
    · refine lv_iload hx hb dL_goes_427 (lv_at hl 5 rfl) ?_
      refine g_bif_eq (tgt := 447) hx hb dL_goes_429 (by decide) (fun c_429 => ?_) (fun c_429 => ?_)
      · refine lv_dload hx hb dL_goes_447 (lv_at hl 3 rfl) ?_
        refine g_dv (v' := (mS M (fO mn b o) (t * 48 + it * 4 + 0) 4)) ((mS_4f (f := fO mn b o) h4 c_429)) ?_
        exact K_449 H locs hP hD hS
      · refine lv_dload hx hb dL_goes_432 (lv_at hl 3 rfl) ?_
        refine lv_iload hx hb dL_goes_434 (lv_at hl 29 rfl) ?_
        refine lv_dload hx hb dL_goes_436 (lv_at hl 8 rfl) ?_
        refine lv_dload hx hb dL_goes_438 (lv_at hl 11 rfl) ?_
        refine gc_S_d (As := [.int (nI (mn)), .double (b (t * 48 + it * 4 + 0 + 3)), .double (o (t * 48 + it * 4 + 0 + 3))]) (rest := [.double (mS M (fO mn b o) (t * 48 + it * 4 + 0) 2)]) (c_L_of l (mn := mn) hmn (nnQ h8 (j := 3) (by decide) c_429).1 (nnQ h8 (j := 3) (by decide) c_429).2) ⟨hx, hb, hml, hown, hts⟩ (va_cwS 3 hts gL_goes_L_of rfl rfl rfl (by decide +kernel) ⟨Nat.le_of_ble_eq_true rfl, Nat.le_of_ble_eq_true rfl⟩) hE hP hD hS hA rfl rfl hl.1 (Nat.le_of_ble_eq_true rfl) dL_goes_440 ⟨Nat.le_of_ble_eq_true rfl, Nat.le_of_ble_eq_true rfl⟩ (fun r_440 u_440 H locs hP hD hS q_440 => ?_)
        subst q_440
        refine lv_dadd hx hb dL_goes_443 (nnA3 h8 h4 c_429) ?_
        refine lv_goto (tgt := 449) hx hb dL_goes_444 (by decide) ?_
        refine g_dv (v' := (mS M (fO mn b o) (t * 48 + it * 4 + 0) 4)) ((mS_4t (f := fO mn b o) h4 c_429)) ?_
        exact K_449 H locs hP hD hS
    refine lv_dstore (lv' := [(40, .double (mS M (fO mn b o) (t * 48 + it * 4 + 0) 4)), (38, .double (mS M (b) (t * 48 + it * 4 + 0) 4)), (36, .double (mS M (fO mn o b) (t * 48 + it * 4 + 0) 4)), (42, .double (mS M (o) (t * 48 + it * 4 + 0) 2)), (35, .int (nI (mN M (t * 48 + it * 4 + 0) 4))), (34, .int (gb (M (t * 48 + it * 4 + 0 + 3)))), (33, .int (gb (M (t * 48 + it * 4 + 0 + 1)))), (32, .int (gb (M (t * 48 + it * 4 + 0 + 0)))), (30, .double (b (t * 48 + it * 4 + 0 + 3))), (28, .double (b (t * 48 + it * 4 + 0 + 1))), (26, .double (b (t * 48 + it * 4 + 0 + 0))), (24, .double (o (t * 48 + it * 4 + 0 + 3))), (22, .double (o (t * 48 + it * 4 + 0 + 1))), (20, .double (o (t * 48 + it * 4 + 0 + 0))), (19, .int (nI ((12 * t) + (3 * it)))), (0, .int (nI (it))), (1, .int (nI (mo))), (2, .int (nI (wh))), (3, .int (gb (wf))), (4, .ref a_zi), (5, .ref a_zc), (6, .ref a_zg), (7, .ref a_zf), (8, .ref a_zn), (9, .ref a_zl), (10, .ref a_zr), (11, .double (pvF pr it 0 (t))), (13, .double (pvF pr it 1 (t))), (15, .double (pvF pr it 3 (t))), (17, .int (nI (mn))), (18, .int (nI (t)))]) hx hb dL_goes_449 hl (by decide) rfl (fun ls hl => ?_)
    refine g_reg (J := 466) (st1 := [.double (mS M (o) (t * 48 + it * 4 + 0) 4)]) hP hD hS (fun K_466 => ?_) (fun H locs hP hD hS => ?_)
    · refine lv_iload hx hb dL_goes_451 (lv_at hl 5 rfl) ?_
      refine g_bif_eq (tgt := 464) hx hb dL_goes_453 (by decide) (fun c_453 => ?_) (fun c_453 => ?_)
      · refine lv_dload hx hb dL_goes_464 (lv_at hl 3 rfl) ?_
        refine g_dv (v' := (mS M (o) (t * 48 + it * 4 + 0) 4)) ((mS_4f (f := o) h4 c_453)) ?_
        exact K_466 H locs hP hD hS
      · refine lv_dload hx hb dL_goes_456 (lv_at hl 3 rfl) ?_
        refine lv_dload hx hb dL_goes_458 (lv_at hl 11 rfl) ?_
        refine lv_dadd hx hb dL_goes_460 (nnB3 h8 h4 c_453) ?_
        refine lv_goto (tgt := 466) hx hb dL_goes_461 (by decide) ?_
        refine g_dv (v' := (mS M (o) (t * 48 + it * 4 + 0) 4)) ((mS_4t (f := o) h4 c_453)) ?_
        exact K_466 H locs hP hD hS
    refine lv_dstore (lv' := [(42, .double (mS M (o) (t * 48 + it * 4 + 0) 4)), (40, .double (mS M (fO mn b o) (t * 48 + it * 4 + 0) 4)), (38, .double (mS M (b) (t * 48 + it * 4 + 0) 4)), (36, .double (mS M (fO mn o b) (t * 48 + it * 4 + 0) 4)), (35, .int (nI (mN M (t * 48 + it * 4 + 0) 4))), (34, .int (gb (M (t * 48 + it * 4 + 0 + 3)))), (33, .int (gb (M (t * 48 + it * 4 + 0 + 1)))), (32, .int (gb (M (t * 48 + it * 4 + 0 + 0)))), (30, .double (b (t * 48 + it * 4 + 0 + 3))), (28, .double (b (t * 48 + it * 4 + 0 + 1))), (26, .double (b (t * 48 + it * 4 + 0 + 0))), (24, .double (o (t * 48 + it * 4 + 0 + 3))), (22, .double (o (t * 48 + it * 4 + 0 + 1))), (20, .double (o (t * 48 + it * 4 + 0 + 0))), (19, .int (nI ((12 * t) + (3 * it)))), (0, .int (nI (it))), (1, .int (nI (mo))), (2, .int (nI (wh))), (3, .int (gb (wf))), (4, .ref a_zi), (5, .ref a_zc), (6, .ref a_zg), (7, .ref a_zf), (8, .ref a_zn), (9, .ref a_zl), (10, .ref a_zr), (11, .double (pvF pr it 0 (t))), (13, .double (pvF pr it 1 (t))), (15, .double (pvF pr it 3 (t))), (17, .int (nI (mn))), (18, .int (nI (t)))]) hx hb dL_goes_466 hl (by decide) rfl (fun ls hl => ?_)
    refine g_reg (J := 511) (st1 := [.double (sMean mn M o b (t * 48 + it * 4 + 0))]) hP hD hS (fun K_511 => ?_) (fun H locs hP hD hS => ?_)
    · refine lv_iload hx hb dL_goes_468 (lv_at hl 4 rfl) ?_
      refine g_if_ne (tgt := 477) hx hb (by omega) dL_goes_470 (by decide) (fun c_470 => ?_) (fun c_470 => ?_)
      · refine lv_iload hx hb dL_goes_477 (lv_at hl 29 rfl) ?_
        refine g_if_ne (tgt := 491) hx hb (by omega) dL_goes_479 (by decide) (fun c_479 => ?_) (fun c_479 => ?_)
        · refine lv_iload hx hb dL_goes_491 (lv_at hl 29 rfl) ?_
          refine lv_iconst (v := nI 1) hx hb dL_goes_493 (by decide) ?_
          refine g_icmp_ne (tgt := 505) hx hb (by omega) (by omega) dL_goes_494 (by decide) (fun c_494 => ?_) (fun c_494 => ?_)
          · refine lv_iload hx hb dL_goes_505 (lv_at hl 4 rfl) ?_
            refine lv_i2d hx hb dL_goes_507 ?_
            refine lv_dload hx hb dL_goes_508 (lv_at hl 3 rfl) ?_
            refine lv_ddiv hx hb dL_goes_510 (nnR_3 h7 (Nat.ne_of_gt c_470) (Nat.ne_of_gt c_479) c_494) ?_
            refine g_dv (v' := (sMean mn M o b (t * 48 + it * 4 + 0))) ((sM_3 (Nat.ne_of_gt c_470) (Nat.ne_of_gt c_479) c_494)) ?_
            exact K_511 H locs hP hD hS
          · refine lv_dload hx hb dL_goes_497 (lv_at hl 3 rfl) ?_
            refine lv_dload hx hb dL_goes_499 (lv_at hl 2 rfl) ?_
            refine lv_ddiv hx hb dL_goes_501 (nnR_2 h7 (Nat.ne_of_gt c_470) c_494) ?_
            refine lv_goto (tgt := 511) hx hb dL_goes_502 (by decide) ?_
            refine g_dv (v' := (sMean mn M o b (t * 48 + it * 4 + 0))) ((sM_2 (Nat.ne_of_gt c_470) c_494)) ?_
            exact K_511 H locs hP hD hS
        · refine lv_dload hx hb dL_goes_482 (lv_at hl 3 rfl) ?_
          refine lv_iload hx hb dL_goes_484 (lv_at hl 4 rfl) ?_
          refine lv_i2d hx hb dL_goes_486 ?_
          refine lv_ddiv hx hb dL_goes_487 (nnR_1 h7 (Nat.ne_of_gt c_470) c_479) ?_
          refine lv_goto (tgt := 511) hx hb dL_goes_488 (by decide) ?_
          refine g_dv (v' := (sMean mn M o b (t * 48 + it * 4 + 0))) ((sM_1 (Nat.ne_of_gt c_470) c_479)) ?_
          exact K_511 H locs hP hD hS
      · refine g_dconst0 hx hb dL_goes_473 ?_
        refine lv_goto (tgt := 511) hx hb dL_goes_474 (by decide) ?_
        refine g_dv (v' := (sMean mn M o b (t * 48 + it * 4 + 0))) ((sM_0 c_470)) ?_
        exact K_511 H locs hP hD hS
    refine lv_dstore (lv' := [(44, .double (sMean mn M o b (t * 48 + it * 4 + 0))), (42, .double (mS M (o) (t * 48 + it * 4 + 0) 4)), (40, .double (mS M (fO mn b o) (t * 48 + it * 4 + 0) 4)), (38, .double (mS M (b) (t * 48 + it * 4 + 0) 4)), (36, .double (mS M (fO mn o b) (t * 48 + it * 4 + 0) 4)), (35, .int (nI (mN M (t * 48 + it * 4 + 0) 4))), (34, .int (gb (M (t * 48 + it * 4 + 0 + 3)))), (33, .int (gb (M (t * 48 + it * 4 + 0 + 1)))), (32, .int (gb (M (t * 48 + it * 4 + 0 + 0)))), (30, .double (b (t * 48 + it * 4 + 0 + 3))), (28, .double (b (t * 48 + it * 4 + 0 + 1))), (26, .double (b (t * 48 + it * 4 + 0 + 0))), (24, .double (o (t * 48 + it * 4 + 0 + 3))), (22, .double (o (t * 48 + it * 4 + 0 + 1))), (20, .double (o (t * 48 + it * 4 + 0 + 0))), (19, .int (nI ((12 * t) + (3 * it)))), (0, .int (nI (it))), (1, .int (nI (mo))), (2, .int (nI (wh))), (3, .int (gb (wf))), (4, .ref a_zi), (5, .ref a_zc), (6, .ref a_zg), (7, .ref a_zf), (8, .ref a_zn), (9, .ref a_zl), (10, .ref a_zr), (11, .double (pvF pr it 0 (t))), (13, .double (pvF pr it 1 (t))), (15, .double (pvF pr it 3 (t))), (17, .int (nI (mn))), (18, .int (nI (t)))]) hx hb dL_goes_511 hl (by decide) rfl (fun ls hl => ?_)
    refine g_reg (J := 556) (st1 := [.double (sMean mn M b o (t * 48 + it * 4 + 0))]) hP hD hS (fun K_556 => ?_) (fun H locs hP hD hS => ?_)
    · refine lv_iload hx hb dL_goes_513 (lv_at hl 5 rfl) ?_
      refine g_if_ne (tgt := 522) hx hb (by omega) dL_goes_515 (by decide) (fun c_515 => ?_) (fun c_515 => ?_)
      · refine lv_iload hx hb dL_goes_522 (lv_at hl 30 rfl) ?_
        refine g_if_ne (tgt := 536) hx hb (by omega) dL_goes_524 (by decide) (fun c_524 => ?_) (fun c_524 => ?_)
        · refine lv_iload hx hb dL_goes_536 (lv_at hl 30 rfl) ?_
          refine lv_iconst (v := nI 1) hx hb dL_goes_538 (by decide) ?_
          refine g_icmp_ne (tgt := 550) hx hb (by omega) (by omega) dL_goes_539 (by decide) (fun c_539 => ?_) (fun c_539 => ?_)
          · refine lv_iload hx hb dL_goes_550 (lv_at hl 5 rfl) ?_
            refine lv_i2d hx hb dL_goes_552 ?_
            refine lv_dload hx hb dL_goes_553 (lv_at hl 2 rfl) ?_
            refine lv_ddiv hx hb dL_goes_555 (nnR_3 h8 (Nat.ne_of_gt c_515) (Nat.ne_of_gt c_524) c_539) ?_
            refine g_dv (v' := (sMean mn M b o (t * 48 + it * 4 + 0))) ((sM_3 (Nat.ne_of_gt c_515) (Nat.ne_of_gt c_524) c_539)) ?_
            exact K_556 H locs hP hD hS
          · refine lv_dload hx hb dL_goes_542 (lv_at hl 2 rfl) ?_
            refine lv_dload hx hb dL_goes_544 (lv_at hl 1 rfl) ?_
            refine lv_ddiv hx hb dL_goes_546 (nnR_2 h8 (Nat.ne_of_gt c_515) c_539) ?_
            refine lv_goto (tgt := 556) hx hb dL_goes_547 (by decide) ?_
            refine g_dv (v' := (sMean mn M b o (t * 48 + it * 4 + 0))) ((sM_2 (Nat.ne_of_gt c_515) c_539)) ?_
            exact K_556 H locs hP hD hS
        · refine lv_dload hx hb dL_goes_527 (lv_at hl 2 rfl) ?_
          refine lv_iload hx hb dL_goes_529 (lv_at hl 5 rfl) ?_
          refine lv_i2d hx hb dL_goes_531 ?_
          refine lv_ddiv hx hb dL_goes_532 (nnR_1 h8 (Nat.ne_of_gt c_515) c_524) ?_
          refine lv_goto (tgt := 556) hx hb dL_goes_533 (by decide) ?_
          refine g_dv (v' := (sMean mn M b o (t * 48 + it * 4 + 0))) ((sM_1 (Nat.ne_of_gt c_515) c_524)) ?_
          exact K_556 H locs hP hD hS
      · refine g_dconst0 hx hb dL_goes_518 ?_
        refine lv_goto (tgt := 556) hx hb dL_goes_519 (by decide) ?_
        refine g_dv (v' := (sMean mn M b o (t * 48 + it * 4 + 0))) ((sM_0 c_515)) ?_
        exact K_556 H locs hP hD hS
    refine lv_dstore (lv' := [(46, .double (sMean mn M b o (t * 48 + it * 4 + 0))), (44, .double (sMean mn M o b (t * 48 + it * 4 + 0))), (42, .double (mS M (o) (t * 48 + it * 4 + 0) 4)), (40, .double (mS M (fO mn b o) (t * 48 + it * 4 + 0) 4)), (38, .double (mS M (b) (t * 48 + it * 4 + 0) 4)), (36, .double (mS M (fO mn o b) (t * 48 + it * 4 + 0) 4)), (35, .int (nI (mN M (t * 48 + it * 4 + 0) 4))), (34, .int (gb (M (t * 48 + it * 4 + 0 + 3)))), (33, .int (gb (M (t * 48 + it * 4 + 0 + 1)))), (32, .int (gb (M (t * 48 + it * 4 + 0 + 0)))), (30, .double (b (t * 48 + it * 4 + 0 + 3))), (28, .double (b (t * 48 + it * 4 + 0 + 1))), (26, .double (b (t * 48 + it * 4 + 0 + 0))), (24, .double (o (t * 48 + it * 4 + 0 + 3))), (22, .double (o (t * 48 + it * 4 + 0 + 1))), (20, .double (o (t * 48 + it * 4 + 0 + 0))), (19, .int (nI ((12 * t) + (3 * it)))), (0, .int (nI (it))), (1, .int (nI (mo))), (2, .int (nI (wh))), (3, .int (gb (wf))), (4, .ref a_zi), (5, .ref a_zc), (6, .ref a_zg), (7, .ref a_zf), (8, .ref a_zn), (9, .ref a_zl), (10, .ref a_zr), (11, .double (pvF pr it 0 (t))), (13, .double (pvF pr it 1 (t))), (15, .double (pvF pr it 3 (t))), (17, .int (nI (mn))), (18, .int (nI (t)))]) hx hb dL_goes_556 hl (by decide) rfl (fun ls hl => ?_)
    refine g_reg (J := 592) (st1 := [.double (pvF pr it 0 (t + 1))]) hP hD hS (fun K_592 => ?_) (fun H locs hP hD hS => ?_)
    · refine lv_iload hx hb dL_goes_558 (lv_at hl 9 rfl) ?_
      refine g_bif_ne (tgt := 570) hx hb dL_goes_560 (by decide) (fun c_560 => ?_) (fun c_560 => ?_)
      · refine lv_dload hx hb dL_goes_570 (lv_at hl 15 rfl) ?_
        refine lv_goto (tgt := 592) hx hb dL_goes_572 (by decide) ?_
        refine g_dv (v' := (pvF pr it 0 (t + 1))) ((by rw [pvF_s]; exact (rP_1 (r := o) (b := b) (its := sMean mn M o b (t * 48 + it * 4 + 0)) c_560).trans (h5 0 (by decide)).symm)) ?_
        exact K_592 H locs hP hD hS
      · refine lv_dload hx hb dL_goes_563 (lv_at hl 12 rfl) ?_
        refine g_dconst0 hx hb dL_goes_565 ?_
        refine g_dcmpl_ne (tgt := 575) hx hb dL_goes_566 dL_goes_567 (by decide) (fun c_566 => ?_) (fun c_566 => ?_)
        · refine lv_dload hx hb dL_goes_575 (lv_at hl 1 rfl) ?_
          refine g_dconst0 hx hb dL_goes_577 ?_
          refine g_dcmpl_le (tgt := 590) hx hb dL_goes_578 dL_goes_579 (by decide) (fun c_578 => ?_) (fun c_578 => ?_)
          · refine lv_dload hx hb dL_goes_590 (lv_at hl 12 rfl) ?_
            refine g_dv (v' := (pvF pr it 0 (t + 1))) ((by rw [pvF_s]; exact (rP_4 (r := o) (b := b) (its := sMean mn M o b (t * 48 + it * 4 + 0)) (fun z => c_566 ((h6 0 (by decide)).2.1.de.mpr z)) c_560 c_578).trans (h5 0 (by decide)).symm)) ?_
            exact K_592 H locs hP hD hS
          · refine lv_dload hx hb dL_goes_582 (lv_at hl 12 rfl) ?_
            refine lv_dload hx hb dL_goes_584 (lv_at hl 1 rfl) ?_
            refine lv_dmul hx hb dL_goes_586 (h6 0 (by decide)).2.2.2 ?_
            refine lv_goto (tgt := 592) hx hb dL_goes_587 (by decide) ?_
            refine g_dv (v' := (pvF pr it 0 (t + 1))) ((by rw [pvF_s]; exact (rP_3 (r := o) (b := b) (its := sMean mn M o b (t * 48 + it * 4 + 0)) (fun z => c_566 ((h6 0 (by decide)).2.1.de.mpr z)) c_560 c_578).trans (h5 0 (by decide)).symm)) ?_
            exact K_592 H locs hP hD hS
        · refine lv_dload hx hb dL_goes_570 (lv_at hl 15 rfl) ?_
          refine lv_goto (tgt := 592) hx hb dL_goes_572 (by decide) ?_
          refine g_dv (v' := (pvF pr it 0 (t + 1))) ((by rw [pvF_s]; exact (rP_2 (M := M) (r := o) (b := b) (its := sMean mn M o b (t * 48 + it * 4 + 0)) (Or.inr c_566)).trans (h5 0 (by decide)).symm)) ?_
          exact K_592 H locs hP hD hS
    refine lv_dstore (lv' := [(11, .double (pvF pr it 0 (t + 1))), (46, .double (sMean mn M b o (t * 48 + it * 4 + 0))), (44, .double (sMean mn M o b (t * 48 + it * 4 + 0))), (42, .double (mS M (o) (t * 48 + it * 4 + 0) 4)), (40, .double (mS M (fO mn b o) (t * 48 + it * 4 + 0) 4)), (38, .double (mS M (b) (t * 48 + it * 4 + 0) 4)), (36, .double (mS M (fO mn o b) (t * 48 + it * 4 + 0) 4)), (35, .int (nI (mN M (t * 48 + it * 4 + 0) 4))), (34, .int (gb (M (t * 48 + it * 4 + 0 + 3)))), (33, .int (gb (M (t * 48 + it * 4 + 0 + 1)))), (32, .int (gb (M (t * 48 + it * 4 + 0 + 0)))), (30, .double (b (t * 48 + it * 4 + 0 + 3))), (28, .double (b (t * 48 + it * 4 + 0 + 1))), (26, .double (b (t * 48 + it * 4 + 0 + 0))), (24, .double (o (t * 48 + it * 4 + 0 + 3))), (22, .double (o (t * 48 + it * 4 + 0 + 1))), (20, .double (o (t * 48 + it * 4 + 0 + 0))), (19, .int (nI ((12 * t) + (3 * it)))), (0, .int (nI (it))), (1, .int (nI (mo))), (2, .int (nI (wh))), (3, .int (gb (wf))), (4, .ref a_zi), (5, .ref a_zc), (6, .ref a_zg), (7, .ref a_zf), (8, .ref a_zn), (9, .ref a_zl), (10, .ref a_zr), (13, .double (pvF pr it 1 (t))), (15, .double (pvF pr it 3 (t))), (17, .int (nI (mn))), (18, .int (nI (t)))]) hx hb dL_goes_592 hl (by decide) rfl (fun ls hl => ?_)
    refine g_reg (J := 628) (st1 := [.double (pvF pr it 1 (t + 1))]) hP hD hS (fun K_628 => ?_) (fun H locs hP hD hS => ?_)
    · refine lv_iload hx hb dL_goes_594 (lv_at hl 9 rfl) ?_
      refine g_bif_ne (tgt := 606) hx hb dL_goes_596 (by decide) (fun c_596 => ?_) (fun c_596 => ?_)
      · refine lv_dload hx hb dL_goes_606 (lv_at hl 15 rfl) ?_
        refine lv_goto (tgt := 628) hx hb dL_goes_608 (by decide) ?_
        refine g_dv (v' := (pvF pr it 1 (t + 1))) ((by rw [pvF_s]; exact (rP_1 (r := o) (b := b) (its := sMean mn M o b (t * 48 + it * 4 + 0)) c_596).trans (h5 1 (by decide)).symm)) ?_
        exact K_628 H locs hP hD hS
      · refine lv_dload hx hb dL_goes_599 (lv_at hl 12 rfl) ?_
        refine g_dconst0 hx hb dL_goes_601 ?_
        refine g_dcmpl_ne (tgt := 611) hx hb dL_goes_602 dL_goes_603 (by decide) (fun c_602 => ?_) (fun c_602 => ?_)
        · refine lv_dload hx hb dL_goes_611 (lv_at hl 2 rfl) ?_
          refine g_dconst0 hx hb dL_goes_613 ?_
          refine g_dcmpl_le (tgt := 626) hx hb dL_goes_614 dL_goes_615 (by decide) (fun c_614 => ?_) (fun c_614 => ?_)
          · refine lv_dload hx hb dL_goes_626 (lv_at hl 12 rfl) ?_
            refine g_dv (v' := (pvF pr it 1 (t + 1))) ((by rw [pvF_s]; exact (rP_4 (r := o) (b := b) (its := sMean mn M o b (t * 48 + it * 4 + 0)) (fun z => c_602 ((h6 1 (by decide)).2.1.de.mpr z)) c_596 c_614).trans (h5 1 (by decide)).symm)) ?_
            exact K_628 H locs hP hD hS
          · refine lv_dload hx hb dL_goes_618 (lv_at hl 12 rfl) ?_
            refine lv_dload hx hb dL_goes_620 (lv_at hl 2 rfl) ?_
            refine lv_dmul hx hb dL_goes_622 (h6 1 (by decide)).2.2.2 ?_
            refine lv_goto (tgt := 628) hx hb dL_goes_623 (by decide) ?_
            refine g_dv (v' := (pvF pr it 1 (t + 1))) ((by rw [pvF_s]; exact (rP_3 (r := o) (b := b) (its := sMean mn M o b (t * 48 + it * 4 + 0)) (fun z => c_602 ((h6 1 (by decide)).2.1.de.mpr z)) c_596 c_614).trans (h5 1 (by decide)).symm)) ?_
            exact K_628 H locs hP hD hS
        · refine lv_dload hx hb dL_goes_606 (lv_at hl 15 rfl) ?_
          refine lv_goto (tgt := 628) hx hb dL_goes_608 (by decide) ?_
          refine g_dv (v' := (pvF pr it 1 (t + 1))) ((by rw [pvF_s]; exact (rP_2 (M := M) (r := o) (b := b) (its := sMean mn M o b (t * 48 + it * 4 + 0)) (Or.inr c_602)).trans (h5 1 (by decide)).symm)) ?_
          exact K_628 H locs hP hD hS
    refine lv_dstore (lv' := [(13, .double (pvF pr it 1 (t + 1))), (11, .double (pvF pr it 0 (t + 1))), (46, .double (sMean mn M b o (t * 48 + it * 4 + 0))), (44, .double (sMean mn M o b (t * 48 + it * 4 + 0))), (42, .double (mS M (o) (t * 48 + it * 4 + 0) 4)), (40, .double (mS M (fO mn b o) (t * 48 + it * 4 + 0) 4)), (38, .double (mS M (b) (t * 48 + it * 4 + 0) 4)), (36, .double (mS M (fO mn o b) (t * 48 + it * 4 + 0) 4)), (35, .int (nI (mN M (t * 48 + it * 4 + 0) 4))), (34, .int (gb (M (t * 48 + it * 4 + 0 + 3)))), (33, .int (gb (M (t * 48 + it * 4 + 0 + 1)))), (32, .int (gb (M (t * 48 + it * 4 + 0 + 0)))), (30, .double (b (t * 48 + it * 4 + 0 + 3))), (28, .double (b (t * 48 + it * 4 + 0 + 1))), (26, .double (b (t * 48 + it * 4 + 0 + 0))), (24, .double (o (t * 48 + it * 4 + 0 + 3))), (22, .double (o (t * 48 + it * 4 + 0 + 1))), (20, .double (o (t * 48 + it * 4 + 0 + 0))), (19, .int (nI ((12 * t) + (3 * it)))), (0, .int (nI (it))), (1, .int (nI (mo))), (2, .int (nI (wh))), (3, .int (gb (wf))), (4, .ref a_zi), (5, .ref a_zc), (6, .ref a_zg), (7, .ref a_zf), (8, .ref a_zn), (9, .ref a_zl), (10, .ref a_zr), (15, .double (pvF pr it 3 (t))), (17, .int (nI (mn))), (18, .int (nI (t)))]) hx hb dL_goes_628 hl (by decide) rfl (fun ls hl => ?_)
    refine g_reg (J := 664) (st1 := [.double (pvF pr it 3 (t + 1))]) hP hD hS (fun K_664 => ?_) (fun H locs hP hD hS => ?_)
    · refine lv_iload hx hb dL_goes_630 (lv_at hl 9 rfl) ?_
      refine g_bif_ne (tgt := 642) hx hb dL_goes_632 (by decide) (fun c_632 => ?_) (fun c_632 => ?_)
      · refine lv_dload hx hb dL_goes_642 (lv_at hl 15 rfl) ?_
        refine lv_goto (tgt := 664) hx hb dL_goes_644 (by decide) ?_
        refine g_dv (v' := (pvF pr it 3 (t + 1))) ((by rw [pvF_s]; exact (rP_1 (r := o) (b := b) (its := sMean mn M o b (t * 48 + it * 4 + 0)) c_632).trans (h5 2 (by decide)).symm)) ?_
        exact K_664 H locs hP hD hS
      · refine lv_dload hx hb dL_goes_635 (lv_at hl 12 rfl) ?_
        refine g_dconst0 hx hb dL_goes_637 ?_
        refine g_dcmpl_ne (tgt := 647) hx hb dL_goes_638 dL_goes_639 (by decide) (fun c_638 => ?_) (fun c_638 => ?_)
        · refine lv_dload hx hb dL_goes_647 (lv_at hl 3 rfl) ?_
          refine g_dconst0 hx hb dL_goes_649 ?_
          refine g_dcmpl_le (tgt := 662) hx hb dL_goes_650 dL_goes_651 (by decide) (fun c_650 => ?_) (fun c_650 => ?_)
          · refine lv_dload hx hb dL_goes_662 (lv_at hl 12 rfl) ?_
            refine g_dv (v' := (pvF pr it 3 (t + 1))) ((by rw [pvF_s]; exact (rP_4 (r := o) (b := b) (its := sMean mn M o b (t * 48 + it * 4 + 0)) (fun z => c_638 ((h6 2 (by decide)).2.1.de.mpr z)) c_632 c_650).trans (h5 2 (by decide)).symm)) ?_
            exact K_664 H locs hP hD hS
          · refine lv_dload hx hb dL_goes_654 (lv_at hl 12 rfl) ?_
            refine lv_dload hx hb dL_goes_656 (lv_at hl 3 rfl) ?_
            refine lv_dmul hx hb dL_goes_658 (h6 2 (by decide)).2.2.2 ?_
            refine lv_goto (tgt := 664) hx hb dL_goes_659 (by decide) ?_
            refine g_dv (v' := (pvF pr it 3 (t + 1))) ((by rw [pvF_s]; exact (rP_3 (r := o) (b := b) (its := sMean mn M o b (t * 48 + it * 4 + 0)) (fun z => c_638 ((h6 2 (by decide)).2.1.de.mpr z)) c_632 c_650).trans (h5 2 (by decide)).symm)) ?_
            exact K_664 H locs hP hD hS
        · refine lv_dload hx hb dL_goes_642 (lv_at hl 15 rfl) ?_
          refine lv_goto (tgt := 664) hx hb dL_goes_644 (by decide) ?_
          refine g_dv (v' := (pvF pr it 3 (t + 1))) ((by rw [pvF_s]; exact (rP_2 (M := M) (r := o) (b := b) (its := sMean mn M o b (t * 48 + it * 4 + 0)) (Or.inr c_638)).trans (h5 2 (by decide)).symm)) ?_
          exact K_664 H locs hP hD hS
    refine lv_dstore (lv' := [(15, .double (pvF pr it 3 (t + 1))), (13, .double (pvF pr it 1 (t + 1))), (11, .double (pvF pr it 0 (t + 1))), (46, .double (sMean mn M b o (t * 48 + it * 4 + 0))), (44, .double (sMean mn M o b (t * 48 + it * 4 + 0))), (42, .double (mS M (o) (t * 48 + it * 4 + 0) 4)), (40, .double (mS M (fO mn b o) (t * 48 + it * 4 + 0) 4)), (38, .double (mS M (b) (t * 48 + it * 4 + 0) 4)), (36, .double (mS M (fO mn o b) (t * 48 + it * 4 + 0) 4)), (35, .int (nI (mN M (t * 48 + it * 4 + 0) 4))), (34, .int (gb (M (t * 48 + it * 4 + 0 + 3)))), (33, .int (gb (M (t * 48 + it * 4 + 0 + 1)))), (32, .int (gb (M (t * 48 + it * 4 + 0 + 0)))), (30, .double (b (t * 48 + it * 4 + 0 + 3))), (28, .double (b (t * 48 + it * 4 + 0 + 1))), (26, .double (b (t * 48 + it * 4 + 0 + 0))), (24, .double (o (t * 48 + it * 4 + 0 + 3))), (22, .double (o (t * 48 + it * 4 + 0 + 1))), (20, .double (o (t * 48 + it * 4 + 0 + 0))), (19, .int (nI ((12 * t) + (3 * it)))), (0, .int (nI (it))), (1, .int (nI (mo))), (2, .int (nI (wh))), (3, .int (gb (wf))), (4, .ref a_zi), (5, .ref a_zc), (6, .ref a_zg), (7, .ref a_zf), (8, .ref a_zn), (9, .ref a_zl), (10, .ref a_zr), (17, .int (nI (mn))), (18, .int (nI (t)))]) hx hb dL_goes_664 hl (by decide) rfl (fun ls hl => ?_)
    refine lv_iload hx hb dL_goes_666 (lv_at hl 32 rfl) ?_
    refine lv_iload_n hx hb dL_goes_668 rfl (lv_at hl 21 rfl) ?_
    refine g_icmp_ne (tgt := 824) hx hb (by omega) (by omega) dL_goes_669 (by decide) (fun c_669 => ?_) (fun c_669 => ?_)
    · refine lv_iinc (v := nI (t + 1)) (lv' := [(18, .int (nI (t + 1))), (15, .double (pvF pr it 3 (t + 1))), (13, .double (pvF pr it 1 (t + 1))), (11, .double (pvF pr it 0 (t + 1))), (46, .double (sMean mn M b o (t * 48 + it * 4 + 0))), (44, .double (sMean mn M o b (t * 48 + it * 4 + 0))), (42, .double (mS M (o) (t * 48 + it * 4 + 0) 4)), (40, .double (mS M (fO mn b o) (t * 48 + it * 4 + 0) 4)), (38, .double (mS M (b) (t * 48 + it * 4 + 0) 4)), (36, .double (mS M (fO mn o b) (t * 48 + it * 4 + 0) 4)), (35, .int (nI (mN M (t * 48 + it * 4 + 0) 4))), (34, .int (gb (M (t * 48 + it * 4 + 0 + 3)))), (33, .int (gb (M (t * 48 + it * 4 + 0 + 1)))), (32, .int (gb (M (t * 48 + it * 4 + 0 + 0)))), (30, .double (b (t * 48 + it * 4 + 0 + 3))), (28, .double (b (t * 48 + it * 4 + 0 + 1))), (26, .double (b (t * 48 + it * 4 + 0 + 0))), (24, .double (o (t * 48 + it * 4 + 0 + 3))), (22, .double (o (t * 48 + it * 4 + 0 + 1))), (20, .double (o (t * 48 + it * 4 + 0 + 0))), (19, .int (nI ((12 * t) + (3 * it)))), (0, .int (nI (it))), (1, .int (nI (mo))), (2, .int (nI (wh))), (3, .int (gb (wf))), (4, .ref a_zi), (5, .ref a_zc), (6, .ref a_zg), (7, .ref a_zf), (8, .ref a_zn), (9, .ref a_zl), (10, .ref a_zr), (17, .int (nI (mn)))]) hx hb dL_goes_824 hl (k := 32) rfl (nI_add _ 1) (by decide) rfl (fun ls hl => ?_)
      refine lv_goto (tgt := 22) hx hb dL_goes_827 (by decide) ?_
      have hP : gvP D vwCl ws _ := g_trP (rfl) hP
      have hD : gvD A ws := g_trD (rfl) hD
      exact ih_t (by omega) H locs ls hP hD hS (lv_sub hl [21, 22, 23, 24, 25, 26, 27, 28, 29, 30, 31, 3, 2, 1, 32, 0] rfl)
    · refine lv_iload_n hx hb dL_goes_672 rfl (lv_at hl 22 rfl) ?_
      refine lv_iconst (v := nI 2) hx hb dL_goes_673 (by decide) ?_
      refine g_icmp_le (tgt := 824) hx hb (by omega) (by omega) dL_goes_674 (by decide) (fun c_674 => ?_) (fun c_674 => ?_)
      · refine lv_iinc (v := nI (t + 1)) (lv' := [(18, .int (nI (t + 1))), (15, .double (pvF pr it 3 (t + 1))), (13, .double (pvF pr it 1 (t + 1))), (11, .double (pvF pr it 0 (t + 1))), (46, .double (sMean mn M b o (t * 48 + it * 4 + 0))), (44, .double (sMean mn M o b (t * 48 + it * 4 + 0))), (42, .double (mS M (o) (t * 48 + it * 4 + 0) 4)), (40, .double (mS M (fO mn b o) (t * 48 + it * 4 + 0) 4)), (38, .double (mS M (b) (t * 48 + it * 4 + 0) 4)), (36, .double (mS M (fO mn o b) (t * 48 + it * 4 + 0) 4)), (35, .int (nI (mN M (t * 48 + it * 4 + 0) 4))), (34, .int (gb (M (t * 48 + it * 4 + 0 + 3)))), (33, .int (gb (M (t * 48 + it * 4 + 0 + 1)))), (32, .int (gb (M (t * 48 + it * 4 + 0 + 0)))), (30, .double (b (t * 48 + it * 4 + 0 + 3))), (28, .double (b (t * 48 + it * 4 + 0 + 1))), (26, .double (b (t * 48 + it * 4 + 0 + 0))), (24, .double (o (t * 48 + it * 4 + 0 + 3))), (22, .double (o (t * 48 + it * 4 + 0 + 1))), (20, .double (o (t * 48 + it * 4 + 0 + 0))), (19, .int (nI ((12 * t) + (3 * it)))), (0, .int (nI (it))), (1, .int (nI (mo))), (2, .int (nI (wh))), (3, .int (gb (wf))), (4, .ref a_zi), (5, .ref a_zc), (6, .ref a_zg), (7, .ref a_zf), (8, .ref a_zn), (9, .ref a_zl), (10, .ref a_zr), (17, .int (nI (mn)))]) hx hb dL_goes_824 hl (k := 32) rfl (nI_add _ 1) (by decide) rfl (fun ls hl => ?_)
        refine lv_goto (tgt := 22) hx hb dL_goes_827 (by decide) ?_
        have hP : gvP D vwCl ws _ := g_trP (rfl) hP
        have hD : gvD A ws := g_trD (rfl) hD
        exact ih_t (by omega) H locs ls hP hD hS (lv_sub hl [21, 22, 23, 24, 25, 26, 27, 28, 29, 30, 31, 3, 2, 1, 32, 0] rfl)
      · refine g_reg (J := 701) (st1 := [.int (nI (dN (o (t * 48 + it * 4 + 0 + 0)) (b (t * 48 + it * 4 + 0 + 0)) (M (t * 48 + it * 4 + 0 + 0))))]) hP hD hS (fun K_701 => ?_) (fun H locs hP hD hS => ?_)
        · refine lv_dload hx hb dL_goes_677 (lv_at hl 18 rfl) ?_
          refine g_dconst0 hx hb dL_goes_679 ?_
          refine g_dcmpl_le (tgt := 700) hx hb dL_goes_680 dL_goes_681 (by decide) (fun c_680 => ?_) (fun c_680 => ?_)
          · refine lv_iconst (v := nI 0) hx hb dL_goes_700 (by decide) ?_
            refine g_iv (v' := (nI (dN (o (t * 48 + it * 4 + 0 + 0)) (b (t * 48 + it * 4 + 0 + 0)) (M (t * 48 + it * 4 + 0 + 0))))) ((congrArg nI (if_neg (fun z => c_680 z.1)).symm)) ?_
            exact K_701 H locs hP hD hS
          · refine lv_dload hx hb dL_goes_684 (lv_at hl 15 rfl) ?_
            refine g_dconst0 hx hb dL_goes_686 ?_
            refine g_dcmpl_le (tgt := 700) hx hb dL_goes_687 dL_goes_688 (by decide) (fun c_687 => ?_) (fun c_687 => ?_)
            · refine lv_iconst (v := nI 0) hx hb dL_goes_700 (by decide) ?_
              refine g_iv (v' := (nI (dN (o (t * 48 + it * 4 + 0 + 0)) (b (t * 48 + it * 4 + 0 + 0)) (M (t * 48 + it * 4 + 0 + 0))))) ((congrArg nI (if_neg (fun z => c_687 z.2.1)).symm)) ?_
              exact K_701 H locs hP hD hS
            · refine lv_iload hx hb dL_goes_691 (lv_at hl 12 rfl) ?_
              refine g_bif_ne (tgt := 700) hx hb dL_goes_693 (by decide) (fun c_693 => ?_) (fun c_693 => ?_)
              · refine lv_iconst (v := nI 0) hx hb dL_goes_700 (by decide) ?_
                refine g_iv (v' := (nI (dN (o (t * 48 + it * 4 + 0 + 0)) (b (t * 48 + it * 4 + 0 + 0)) (M (t * 48 + it * 4 + 0 + 0))))) ((congrArg nI (if_neg (fun z => by rw [c_693] at z; exact absurd z.2.2 (by decide))).symm)) ?_
                exact K_701 H locs hP hD hS
              · refine lv_iconst (v := nI 1) hx hb dL_goes_696 (by decide) ?_
                refine lv_goto (tgt := 701) hx hb dL_goes_697 (by decide) ?_
                refine g_iv (v' := (nI (dN (o (t * 48 + it * 4 + 0 + 0)) (b (t * 48 + it * 4 + 0 + 0)) (M (t * 48 + it * 4 + 0 + 0))))) ((congrArg nI (if_pos ⟨c_680, c_687, c_693⟩).symm)) ?_
                exact K_701 H locs hP hD hS
        refine g_reg (J := 725) (st1 := [.int (nI (dN (o (t * 48 + it * 4 + 0 + 1)) (b (t * 48 + it * 4 + 0 + 1)) (M (t * 48 + it * 4 + 0 + 1)))), .int (nI (dN (o (t * 48 + it * 4 + 0 + 0)) (b (t * 48 + it * 4 + 0 + 0)) (M (t * 48 + it * 4 + 0 + 0))))]) hP hD hS (fun K_725 => ?_) (fun H locs hP hD hS => ?_)
        · refine lv_dload hx hb dL_goes_701 (lv_at hl 17 rfl) ?_
          refine g_dconst0 hx hb dL_goes_703 ?_
          refine g_dcmpl_le (tgt := 724) hx hb dL_goes_704 dL_goes_705 (by decide) (fun c_704 => ?_) (fun c_704 => ?_)
          · refine lv_iconst (v := nI 0) hx hb dL_goes_724 (by decide) ?_
            refine g_iv (v' := (nI (dN (o (t * 48 + it * 4 + 0 + 1)) (b (t * 48 + it * 4 + 0 + 1)) (M (t * 48 + it * 4 + 0 + 1))))) ((congrArg nI (if_neg (fun z => c_704 z.1)).symm)) ?_
            exact K_725 H locs hP hD hS
          · refine lv_dload hx hb dL_goes_708 (lv_at hl 14 rfl) ?_
            refine g_dconst0 hx hb dL_goes_710 ?_
            refine g_dcmpl_le (tgt := 724) hx hb dL_goes_711 dL_goes_712 (by decide) (fun c_711 => ?_) (fun c_711 => ?_)
            · refine lv_iconst (v := nI 0) hx hb dL_goes_724 (by decide) ?_
              refine g_iv (v' := (nI (dN (o (t * 48 + it * 4 + 0 + 1)) (b (t * 48 + it * 4 + 0 + 1)) (M (t * 48 + it * 4 + 0 + 1))))) ((congrArg nI (if_neg (fun z => c_711 z.2.1)).symm)) ?_
              exact K_725 H locs hP hD hS
            · refine lv_iload hx hb dL_goes_715 (lv_at hl 11 rfl) ?_
              refine g_bif_ne (tgt := 724) hx hb dL_goes_717 (by decide) (fun c_717 => ?_) (fun c_717 => ?_)
              · refine lv_iconst (v := nI 0) hx hb dL_goes_724 (by decide) ?_
                refine g_iv (v' := (nI (dN (o (t * 48 + it * 4 + 0 + 1)) (b (t * 48 + it * 4 + 0 + 1)) (M (t * 48 + it * 4 + 0 + 1))))) ((congrArg nI (if_neg (fun z => by rw [c_717] at z; exact absurd z.2.2 (by decide))).symm)) ?_
                exact K_725 H locs hP hD hS
              · refine lv_iconst (v := nI 1) hx hb dL_goes_720 (by decide) ?_
                refine lv_goto (tgt := 725) hx hb dL_goes_721 (by decide) ?_
                refine g_iv (v' := (nI (dN (o (t * 48 + it * 4 + 0 + 1)) (b (t * 48 + it * 4 + 0 + 1)) (M (t * 48 + it * 4 + 0 + 1))))) ((congrArg nI (if_pos ⟨c_704, c_711, c_717⟩).symm)) ?_
                exact K_725 H locs hP hD hS
        refine g_iadd hx hb dL_goes_725 (nI_add _ _) ?_
        refine g_reg (J := 750) (st1 := [.int (nI (dN (o (t * 48 + it * 4 + 0 + 3)) (b (t * 48 + it * 4 + 0 + 3)) (M (t * 48 + it * 4 + 0 + 3)))), .int (nI ((dN (o (t * 48 + it * 4 + 0 + 0)) (b (t * 48 + it * 4 + 0 + 0)) (M (t * 48 + it * 4 + 0 + 0))) + (dN (o (t * 48 + it * 4 + 0 + 1)) (b (t * 48 + it * 4 + 0 + 1)) (M (t * 48 + it * 4 + 0 + 1)))))]) hP hD hS (fun K_750 => ?_) (fun H locs hP hD hS => ?_)
        · refine lv_dload hx hb dL_goes_726 (lv_at hl 16 rfl) ?_
          refine g_dconst0 hx hb dL_goes_728 ?_
          refine g_dcmpl_le (tgt := 749) hx hb dL_goes_729 dL_goes_730 (by decide) (fun c_729 => ?_) (fun c_729 => ?_)
          · refine lv_iconst (v := nI 0) hx hb dL_goes_749 (by decide) ?_
            refine g_iv (v' := (nI (dN (o (t * 48 + it * 4 + 0 + 3)) (b (t * 48 + it * 4 + 0 + 3)) (M (t * 48 + it * 4 + 0 + 3))))) ((congrArg nI (if_neg (fun z => c_729 z.1)).symm)) ?_
            exact K_750 H locs hP hD hS
          · refine lv_dload hx hb dL_goes_733 (lv_at hl 13 rfl) ?_
            refine g_dconst0 hx hb dL_goes_735 ?_
            refine g_dcmpl_le (tgt := 749) hx hb dL_goes_736 dL_goes_737 (by decide) (fun c_736 => ?_) (fun c_736 => ?_)
            · refine lv_iconst (v := nI 0) hx hb dL_goes_749 (by decide) ?_
              refine g_iv (v' := (nI (dN (o (t * 48 + it * 4 + 0 + 3)) (b (t * 48 + it * 4 + 0 + 3)) (M (t * 48 + it * 4 + 0 + 3))))) ((congrArg nI (if_neg (fun z => c_736 z.2.1)).symm)) ?_
              exact K_750 H locs hP hD hS
            · refine lv_iload hx hb dL_goes_740 (lv_at hl 10 rfl) ?_
              refine g_bif_ne (tgt := 749) hx hb dL_goes_742 (by decide) (fun c_742 => ?_) (fun c_742 => ?_)
              · refine lv_iconst (v := nI 0) hx hb dL_goes_749 (by decide) ?_
                refine g_iv (v' := (nI (dN (o (t * 48 + it * 4 + 0 + 3)) (b (t * 48 + it * 4 + 0 + 3)) (M (t * 48 + it * 4 + 0 + 3))))) ((congrArg nI (if_neg (fun z => by rw [c_742] at z; exact absurd z.2.2 (by decide))).symm)) ?_
                exact K_750 H locs hP hD hS
              · refine lv_iconst (v := nI 1) hx hb dL_goes_745 (by decide) ?_
                refine lv_goto (tgt := 750) hx hb dL_goes_746 (by decide) ?_
                refine g_iv (v' := (nI (dN (o (t * 48 + it * 4 + 0 + 3)) (b (t * 48 + it * 4 + 0 + 3)) (M (t * 48 + it * 4 + 0 + 3))))) ((congrArg nI (if_pos ⟨c_729, c_736, c_742⟩).symm)) ?_
                exact K_750 H locs hP hD hS
        refine g_iadd hx hb dL_goes_750 (nI_add _ _) ?_
        refine lv_istore (lv' := [(48, .int (nI (((dN (o (t * 48 + it * 4 + 0 + 0)) (b (t * 48 + it * 4 + 0 + 0)) (M (t * 48 + it * 4 + 0 + 0))) + (dN (o (t * 48 + it * 4 + 0 + 1)) (b (t * 48 + it * 4 + 0 + 1)) (M (t * 48 + it * 4 + 0 + 1)))) + (dN (o (t * 48 + it * 4 + 0 + 3)) (b (t * 48 + it * 4 + 0 + 3)) (M (t * 48 + it * 4 + 0 + 3)))))), (15, .double (pvF pr it 3 (t + 1))), (13, .double (pvF pr it 1 (t + 1))), (11, .double (pvF pr it 0 (t + 1))), (46, .double (sMean mn M b o (t * 48 + it * 4 + 0))), (44, .double (sMean mn M o b (t * 48 + it * 4 + 0))), (42, .double (mS M (o) (t * 48 + it * 4 + 0) 4)), (40, .double (mS M (fO mn b o) (t * 48 + it * 4 + 0) 4)), (38, .double (mS M (b) (t * 48 + it * 4 + 0) 4)), (36, .double (mS M (fO mn o b) (t * 48 + it * 4 + 0) 4)), (35, .int (nI (mN M (t * 48 + it * 4 + 0) 4))), (34, .int (gb (M (t * 48 + it * 4 + 0 + 3)))), (33, .int (gb (M (t * 48 + it * 4 + 0 + 1)))), (32, .int (gb (M (t * 48 + it * 4 + 0 + 0)))), (30, .double (b (t * 48 + it * 4 + 0 + 3))), (28, .double (b (t * 48 + it * 4 + 0 + 1))), (26, .double (b (t * 48 + it * 4 + 0 + 0))), (24, .double (o (t * 48 + it * 4 + 0 + 3))), (22, .double (o (t * 48 + it * 4 + 0 + 1))), (20, .double (o (t * 48 + it * 4 + 0 + 0))), (19, .int (nI ((12 * t) + (3 * it)))), (0, .int (nI (it))), (1, .int (nI (mo))), (2, .int (nI (wh))), (3, .int (gb (wf))), (4, .ref a_zi), (5, .ref a_zc), (6, .ref a_zg), (7, .ref a_zf), (8, .ref a_zn), (9, .ref a_zl), (10, .ref a_zr), (17, .int (nI (mn))), (18, .int (nI (t)))]) hx hb dL_goes_751 hl (by decide) rfl (fun ls hl => ?_)
        refine g_reg (J := 776) (st1 := [.int (gb (isV wh (M (t * 48 + it * 4 + 0 + 0)) (M (t * 48 + it * 4 + 0 + 1)) (M (t * 48 + it * 4 + 0 + 3))))]) hP hD hS (fun K_776 => ?_) (fun H locs hP hD hS => ?_)
        · refine lv_iload_n hx hb dL_goes_753 rfl (lv_at hl 23 rfl) ?_
          refine lv_iconst (v := nI 5) hx hb dL_goes_754 (by decide) ?_
          refine g_icmp_ne (tgt := 763) hx hb (by omega) (by omega) dL_goes_755 (by decide) (fun c_755 => ?_) (fun c_755 => ?_)
          · refine lv_iload_n hx hb dL_goes_763 rfl (lv_at hl 23 rfl) ?_
            refine lv_bipush (v := nI 6) hx hb dL_goes_764 (by decide) ?_
            refine g_icmp_ne (tgt := 774) hx hb (by omega) (by omega) dL_goes_766 (by decide) (fun c_766 => ?_) (fun c_766 => ?_)
            · refine lv_iload hx hb dL_goes_774 (lv_at hl 11 rfl) ?_
              refine g_iv (v' := (gb (isV wh (M (t * 48 + it * 4 + 0 + 0)) (M (t * 48 + it * 4 + 0 + 1)) (M (t * 48 + it * 4 + 0 + 3))))) ((congrArg gb ((if_neg c_755).trans (if_neg c_766)).symm)) ?_
              exact K_776 H locs hP hD hS
            · refine lv_iload hx hb dL_goes_769 (lv_at hl 12 rfl) ?_
              refine lv_goto (tgt := 776) hx hb dL_goes_771 (by decide) ?_
              refine g_iv (v' := (gb (isV wh (M (t * 48 + it * 4 + 0 + 0)) (M (t * 48 + it * 4 + 0 + 1)) (M (t * 48 + it * 4 + 0 + 3))))) ((congrArg gb ((if_neg c_755).trans (if_pos c_766)).symm)) ?_
              exact K_776 H locs hP hD hS
          · refine lv_iload hx hb dL_goes_758 (lv_at hl 13 rfl) ?_
            refine lv_goto (tgt := 776) hx hb dL_goes_760 (by decide) ?_
            refine g_iv (v' := (gb (isV wh (M (t * 48 + it * 4 + 0 + 0)) (M (t * 48 + it * 4 + 0 + 1)) (M (t * 48 + it * 4 + 0 + 3))))) ((congrArg gb (if_pos c_755).symm)) ?_
            exact K_776 H locs hP hD hS
        refine lv_istore (lv' := [(49, .int (gb (isV wh (M (t * 48 + it * 4 + 0 + 0)) (M (t * 48 + it * 4 + 0 + 1)) (M (t * 48 + it * 4 + 0 + 3))))), (48, .int (nI (((dN (o (t * 48 + it * 4 + 0 + 0)) (b (t * 48 + it * 4 + 0 + 0)) (M (t * 48 + it * 4 + 0 + 0))) + (dN (o (t * 48 + it * 4 + 0 + 1)) (b (t * 48 + it * 4 + 0 + 1)) (M (t * 48 + it * 4 + 0 + 1)))) + (dN (o (t * 48 + it * 4 + 0 + 3)) (b (t * 48 + it * 4 + 0 + 3)) (M (t * 48 + it * 4 + 0 + 3)))))), (15, .double (pvF pr it 3 (t + 1))), (13, .double (pvF pr it 1 (t + 1))), (11, .double (pvF pr it 0 (t + 1))), (46, .double (sMean mn M b o (t * 48 + it * 4 + 0))), (44, .double (sMean mn M o b (t * 48 + it * 4 + 0))), (42, .double (mS M (o) (t * 48 + it * 4 + 0) 4)), (40, .double (mS M (fO mn b o) (t * 48 + it * 4 + 0) 4)), (38, .double (mS M (b) (t * 48 + it * 4 + 0) 4)), (36, .double (mS M (fO mn o b) (t * 48 + it * 4 + 0) 4)), (35, .int (nI (mN M (t * 48 + it * 4 + 0) 4))), (34, .int (gb (M (t * 48 + it * 4 + 0 + 3)))), (33, .int (gb (M (t * 48 + it * 4 + 0 + 1)))), (32, .int (gb (M (t * 48 + it * 4 + 0 + 0)))), (30, .double (b (t * 48 + it * 4 + 0 + 3))), (28, .double (b (t * 48 + it * 4 + 0 + 1))), (26, .double (b (t * 48 + it * 4 + 0 + 0))), (24, .double (o (t * 48 + it * 4 + 0 + 3))), (22, .double (o (t * 48 + it * 4 + 0 + 1))), (20, .double (o (t * 48 + it * 4 + 0 + 0))), (19, .int (nI ((12 * t) + (3 * it)))), (0, .int (nI (it))), (1, .int (nI (mo))), (2, .int (nI (wh))), (3, .int (gb (wf))), (4, .ref a_zi), (5, .ref a_zc), (6, .ref a_zg), (7, .ref a_zf), (8, .ref a_zn), (9, .ref a_zl), (10, .ref a_zr), (17, .int (nI (mn))), (18, .int (nI (t)))]) hx hb dL_goes_776 hl (by decide) rfl (fun ls hl => ?_)
        refine lv_iload_n hx hb dL_goes_778 rfl (lv_at hl 24 rfl) ?_
        refine lv_iconst (v := nI 3) hx hb dL_goes_779 (by decide) ?_
        refine g_icmp_ne (tgt := 788) hx hb (by omega) (by omega) dL_goes_780 (by decide) (fun c_780 => ?_) (fun c_780 => ?_)
        · refine lv_iload_n hx hb dL_goes_788 rfl (lv_at hl 24 rfl) ?_
          refine lv_iconst (v := nI 4) hx hb dL_goes_789 (by decide) ?_
          refine g_icmp_ne (tgt := 801) hx hb (by omega) (by omega) dL_goes_790 (by decide) (fun c_790 => ?_) (fun c_790 => ?_)
          · refine lv_iload_n hx hb dL_goes_801 rfl (lv_at hl 24 rfl) ?_
            refine lv_bipush (v := nI 8) hx hb dL_goes_802 (by decide) ?_
            refine g_icmp_ne (tgt := 813) hx hb (by omega) (by omega) dL_goes_804 (by decide) (fun c_804 => ?_) (fun c_804 => ?_)
            · refine lv_iload hx hb dL_goes_813 (lv_at hl 0 rfl) ?_
              refine g_bif_eq (tgt := 822) hx hb dL_goes_815 (by decide) (fun c_815 => ?_) (fun c_815 => ?_)
              · refine g_dconst0 hx hb dL_goes_822 ?_
                refine g_dret hx hb hr hlocks () dL_goes_823 hS hP hD ?_
                have n0 : ¬ wh = 0 := fun z => by rw [z] at c_674; exact absurd c_674 (by decide)
                have n1 : ¬ wh = 1 := fun z => by rw [z] at c_674; exact absurd c_674 (by decide)
                have n2 : ¬ wh = 2 := fun z => by rw [z] at c_674; exact absurd c_674 (by decide)
                show _ = gV wh mn M o b pr (mo * 48 + it * 4 + 0)
                rw [← c_669]
                unfold gV
                rw [if_neg n0, if_neg n1, if_neg n2, if_neg c_780, if_neg c_790, if_neg c_804, if_neg (by rw [c_815]; decide)]
              · refine lv_dconst1 hx hb dL_goes_818 ?_
                refine lv_goto (tgt := 823) hx hb dL_goes_819 (by decide) ?_
                refine g_dret hx hb hr hlocks () dL_goes_823 hS hP hD ?_
                have n0 : ¬ wh = 0 := fun z => by rw [z] at c_674; exact absurd c_674 (by decide)
                have n1 : ¬ wh = 1 := fun z => by rw [z] at c_674; exact absurd c_674 (by decide)
                have n2 : ¬ wh = 2 := fun z => by rw [z] at c_674; exact absurd c_674 (by decide)
                show _ = gV wh mn M o b pr (mo * 48 + it * 4 + 0)
                rw [← c_669]
                unfold gV
                rw [if_neg n0, if_neg n1, if_neg n2, if_neg c_780, if_neg c_790, if_neg c_804, if_pos c_815]
            · refine lv_iload hx hb dL_goes_807 (lv_at hl 1 rfl) ?_
              refine lv_i2d hx hb dL_goes_809 ?_
              refine lv_goto (tgt := 823) hx hb dL_goes_810 (by decide) ?_
              refine g_dret hx hb hr hlocks () dL_goes_823 hS hP hD ?_
              have n0 : ¬ wh = 0 := fun z => by rw [z] at c_674; exact absurd c_674 (by decide)
              have n1 : ¬ wh = 1 := fun z => by rw [z] at c_674; exact absurd c_674 (by decide)
              have n2 : ¬ wh = 2 := fun z => by rw [z] at c_674; exact absurd c_674 (by decide)
              show _ = gV wh mn M o b pr (mo * 48 + it * 4 + 0)
              rw [← c_669]
              unfold gV
              rw [if_neg n0, if_neg n1, if_neg n2, if_neg c_780, if_neg c_790, if_pos c_804]
          · refine lv_dload hx hb dL_goes_793 (lv_at hl 6 rfl) ?_
            refine lv_dload hx hb dL_goes_795 (lv_at hl 5 rfl) ?_
            refine lv_dmul hx hb dL_goes_797 h10 ?_
            refine lv_goto (tgt := 823) hx hb dL_goes_798 (by decide) ?_
            refine g_dret hx hb hr hlocks () dL_goes_823 hS hP hD ?_
            have n0 : ¬ wh = 0 := fun z => by rw [z] at c_674; exact absurd c_674 (by decide)
            have n1 : ¬ wh = 1 := fun z => by rw [z] at c_674; exact absurd c_674 (by decide)
            have n2 : ¬ wh = 2 := fun z => by rw [z] at c_674; exact absurd c_674 (by decide)
            show _ = gV wh mn M o b pr (mo * 48 + it * 4 + 0)
            rw [← c_669]
            unfold gV
            rw [if_neg n0, if_neg n1, if_neg n2, if_neg c_780, if_pos c_790]
        · refine lv_dload hx hb dL_goes_783 (lv_at hl 6 rfl) ?_
          refine lv_goto (tgt := 823) hx hb dL_goes_785 (by decide) ?_
          refine g_dret hx hb hr hlocks () dL_goes_823 hS hP hD ?_
          have n0 : ¬ wh = 0 := fun z => by rw [z] at c_674; exact absurd c_674 (by decide)
          have n1 : ¬ wh = 1 := fun z => by rw [z] at c_674; exact absurd c_674 (by decide)
          have n2 : ¬ wh = 2 := fun z => by rw [z] at c_674; exact absurd c_674 (by decide)
          show _ = gV wh mn M o b pr (mo * 48 + it * 4 + 0)
          rw [← c_669]
          unfold gV
          rw [if_neg n0, if_neg n1, if_neg n2, if_pos c_780]
